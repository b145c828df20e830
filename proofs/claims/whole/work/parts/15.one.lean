section JW
variable {p : Program} {l : Launch} {e : Env} {R : Room} {s : State} {m : MethodId} {args : Array Value} {below : List Frame} {meth : Method} {c : Code} {g : jG} {A : Nat → Prop} {nL : Nat} {Q : State → Prop} {cells slots : Nat}
variable {ws : va_W} {lv : List (Nat × Value)} {pc : Nat} {st : List Value} {cc : ByteArray} {own : String} {Ts : List Cond}
theorem j_iincWN (hX : jOK p s m args c g A cc nL own Ts) {i : Nat} {n : Int} (a b : Nat) (lv' : List (Nat × Value)) (q : Nat) (hd : decode cc pc = .ok (.iinc i n, 6)) (hq : lv[q]? = some (i, .int (nI a))) (hv : nI a + Int32.ofInt n = nI b) (hn : i < nL) (hw : (i, Value.int (nI b)) :: lv.filter (fun q => !(q.1 == i) && !(q.1 + 1 == i && q.2.category == 2)) = lv') (k : J p l e R s m args below meth c g A nL Q cells slots ws lv' (pc + 6) st) : J p l e R s m args below meth c g A nL Q cells slots ws lv pc st :=
  fun H locs ls hP hD hS hl => lv_iincW hX.1.1 hX.1.2.1 hd hl hq hv hn hw (fun ls' hl' => k H locs ls' hP hD hS hl')
end JW
theorem mc_row (A : Nat → Int64) {y : Nat} (hy : y % 5 = 0) : A y ^^^ kD A 0 = kT A y ∧ A (y + 1) ^^^ kD A 1 = kT A (y + 1) ∧ A (y + 2) ^^^ kD A 2 = kT A (y + 2) ∧ A (y + 3) ^^^ kD A 3 = kT A (y + 3) ∧ A (y + 4) ^^^ kD A 4 = kT A (y + 4) := by
  unfold kT
  rw [hy, show (y + 1) % 5 = 1 by omega, show (y + 2) % 5 = 2 by omega, show (y + 3) % 5 = 3 by omega, show (y + 4) % 5 = 4 by omega]
  exact ⟨rfl, rfl, rfl, rfl, rfl⟩
theorem kX_row (B : Nat → Int64) {y : Nat} (hy : y % 5 = 0) : B y ^^^ ((B (y + 1) ^^^ (-1)) &&& B (y + 2)) = kX B y ∧ B (y + 1) ^^^ ((B (y + 2) ^^^ (-1)) &&& B (y + 3)) = kX B (y + 1) ∧ B (y + 2) ^^^ ((B (y + 3) ^^^ (-1)) &&& B (y + 4)) = kX B (y + 2) ∧ B (y + 3) ^^^ ((B (y + 4) ^^^ (-1)) &&& B y) = kX B (y + 3) ∧ B (y + 4) ^^^ ((B y ^^^ (-1)) &&& B (y + 1)) = kX B (y + 4) := by
  unfold kX
  refine ⟨?_, ?_, ?_, ?_, ?_⟩
  · rw [show (y % 5 + 1) % 5 + 5 * (y / 5) = y + 1 by omega, show (y % 5 + 2) % 5 + 5 * (y / 5) = y + 2 by omega]
  · rw [show ((y + 1) % 5 + 1) % 5 + 5 * ((y + 1) / 5) = y + 2 by omega, show ((y + 1) % 5 + 2) % 5 + 5 * ((y + 1) / 5) = y + 3 by omega]
  · rw [show ((y + 2) % 5 + 1) % 5 + 5 * ((y + 2) / 5) = y + 3 by omega, show ((y + 2) % 5 + 2) % 5 + 5 * ((y + 2) / 5) = y + 4 by omega]
  · rw [show ((y + 3) % 5 + 1) % 5 + 5 * ((y + 3) / 5) = y + 4 by omega, show ((y + 3) % 5 + 2) % 5 + 5 * ((y + 3) / 5) = y by omega]
  · rw [show ((y + 4) % 5 + 1) % 5 + 5 * ((y + 4) / 5) = y by omega, show ((y + 4) % 5 + 2) % 5 + 5 * ((y + 4) / 5) = y + 1 by omega]
theorem round_of {A T F : Nat → Int64} {w : Int64} (hT : eq25 T (kT A)) (hF : ∀ k, k < 25 → F k = if k = 0 then kX (kB T) 0 ^^^ w else kX (kB T) k) : eq25 F (kR A w) := by
  have h2 := kX_congr (kB_congr hT)
  intro k hk
  rw [hF k hk]
  unfold kR
  rw [h2 0 (by decide), h2 k hk]
theorem Zl_31 : Zl 31 1 = [31] := by decide +kernel
theorem u1_eq {f f1 f2 : Nat → Int32} {n : Nat} (h1 : f1 = putL f n (Zl 31 1)) (h2 : f2 = putL f1 (n + 1) (Zl 0 ((136 - (n + 1) % 136) % 136))) : f2 = putL f n (u1 n) := by
  rw [h2, h1, putL_app' (by rw [Zl_length]), Zl_31, zeros_Zl]
  rfl

theorem dX3_absorb_0 : decode cX3_absorb 0 = .ok (.iconst 0, 1) := by decide +kernel
theorem dX3_absorb_1 : decode cX3_absorb 1 = .ok (.istore_n 3, 1) := by decide +kernel
theorem dX3_absorb_2 : decode cX3_absorb 2 = .ok (.iload_n 3, 1) := by decide +kernel
theorem dX3_absorb_3 : decode cX3_absorb 3 = .ok (.sipush 136, 3) := by decide +kernel
theorem dX3_absorb_6 : decode cX3_absorb 6 = .ok (.if_icmp .ge 39, 3) := by decide +kernel
theorem dX3_absorb_9 : decode cX3_absorb 9 = .ok (.aload_n 0, 1) := by decide +kernel
theorem dX3_absorb_10 : decode cX3_absorb 10 = .ok (.getfield 9, 3) := by decide +kernel
theorem dX3_absorb_13 : decode cX3_absorb 13 = .ok (.iload_n 3, 1) := by decide +kernel
theorem dX3_absorb_14 : decode cX3_absorb 14 = .ok (.bipush 8, 2) := by decide +kernel
theorem dX3_absorb_16 : decode cX3_absorb 16 = .ok (.idiv, 1) := by decide +kernel
theorem dX3_absorb_17 : decode cX3_absorb 17 = .ok (.dup2, 1) := by decide +kernel
theorem dX3_absorb_18 : decode cX3_absorb 18 = .ok (.laload, 1) := by decide +kernel
theorem dX3_absorb_19 : decode cX3_absorb 19 = .ok (.aload_n 1, 1) := by decide +kernel
theorem dX3_absorb_20 : decode cX3_absorb 20 = .ok (.iload_n 2, 1) := by decide +kernel
theorem dX3_absorb_21 : decode cX3_absorb 21 = .ok (.iload_n 3, 1) := by decide +kernel
theorem dX3_absorb_22 : decode cX3_absorb 22 = .ok (.iadd, 1) := by decide +kernel
theorem dX3_absorb_23 : decode cX3_absorb 23 = .ok (.baload, 1) := by decide +kernel
theorem dX3_absorb_24 : decode cX3_absorb 24 = .ok (.i2l, 1) := by decide +kernel
theorem dX3_absorb_25 : decode cX3_absorb 25 = .ok (.ldc2_w 59, 3) := by decide +kernel
theorem dX3_absorb_28 : decode cX3_absorb 28 = .ok (.land, 1) := by decide +kernel
theorem dX3_absorb_29 : decode cX3_absorb 29 = .ok (.bipush 8, 2) := by decide +kernel
theorem dX3_absorb_31 : decode cX3_absorb 31 = .ok (.iload_n 3, 1) := by decide +kernel
theorem dX3_absorb_32 : decode cX3_absorb 32 = .ok (.bipush 8, 2) := by decide +kernel
theorem dX3_absorb_34 : decode cX3_absorb 34 = .ok (.irem, 1) := by decide +kernel
theorem dX3_absorb_35 : decode cX3_absorb 35 = .ok (.imul, 1) := by decide +kernel
theorem dX3_absorb_36 : decode cX3_absorb 36 = .ok (.lshl, 1) := by decide +kernel
theorem dX3_absorb_37 : decode cX3_absorb 37 = .ok (.lxor, 1) := by decide +kernel
theorem dX3_absorb_38 : decode cX3_absorb 38 = .ok (.lastore, 1) := by decide +kernel
theorem dX3_absorb_39 : decode cX3_absorb 39 = .ok (.iinc 3 1, 3) := by decide +kernel
theorem dX3_absorb_42 : decode cX3_absorb 42 = .ok (.goto (-40), 3) := by decide +kernel
theorem dX3_absorb_45 : decode cX3_absorb 45 = .ok (.return_, 1) := by decide +kernel
theorem dX3_mixColumns_0 : decode cX3_mixColumns 0 = .ok (.aload_n 0, 1) := by decide +kernel
theorem dX3_mixColumns_1 : decode cX3_mixColumns 1 = .ok (.getfield 9, 3) := by decide +kernel
theorem dX3_mixColumns_4 : decode cX3_mixColumns 4 = .ok (.iconst 0, 1) := by decide +kernel
theorem dX3_mixColumns_5 : decode cX3_mixColumns 5 = .ok (.laload, 1) := by decide +kernel
theorem dX3_mixColumns_6 : decode cX3_mixColumns 6 = .ok (.aload_n 0, 1) := by decide +kernel
theorem dX3_mixColumns_7 : decode cX3_mixColumns 7 = .ok (.getfield 9, 3) := by decide +kernel
theorem dX3_mixColumns_10 : decode cX3_mixColumns 10 = .ok (.iconst 5, 1) := by decide +kernel
theorem dX3_mixColumns_11 : decode cX3_mixColumns 11 = .ok (.laload, 1) := by decide +kernel
theorem dX3_mixColumns_12 : decode cX3_mixColumns 12 = .ok (.lxor, 1) := by decide +kernel
theorem dX3_mixColumns_13 : decode cX3_mixColumns 13 = .ok (.aload_n 0, 1) := by decide +kernel
theorem dX3_mixColumns_14 : decode cX3_mixColumns 14 = .ok (.getfield 9, 3) := by decide +kernel
theorem dX3_mixColumns_17 : decode cX3_mixColumns 17 = .ok (.bipush 10, 2) := by decide +kernel
theorem dX3_mixColumns_19 : decode cX3_mixColumns 19 = .ok (.laload, 1) := by decide +kernel
theorem dX3_mixColumns_20 : decode cX3_mixColumns 20 = .ok (.lxor, 1) := by decide +kernel
theorem dX3_mixColumns_21 : decode cX3_mixColumns 21 = .ok (.aload_n 0, 1) := by decide +kernel
theorem dX3_mixColumns_22 : decode cX3_mixColumns 22 = .ok (.getfield 9, 3) := by decide +kernel
theorem dX3_mixColumns_25 : decode cX3_mixColumns 25 = .ok (.bipush 15, 2) := by decide +kernel
theorem dX3_mixColumns_27 : decode cX3_mixColumns 27 = .ok (.laload, 1) := by decide +kernel
theorem dX3_mixColumns_28 : decode cX3_mixColumns 28 = .ok (.lxor, 1) := by decide +kernel
theorem dX3_mixColumns_29 : decode cX3_mixColumns 29 = .ok (.aload_n 0, 1) := by decide +kernel
theorem dX3_mixColumns_30 : decode cX3_mixColumns 30 = .ok (.getfield 9, 3) := by decide +kernel
theorem dX3_mixColumns_33 : decode cX3_mixColumns 33 = .ok (.bipush 20, 2) := by decide +kernel
theorem dX3_mixColumns_35 : decode cX3_mixColumns 35 = .ok (.laload, 1) := by decide +kernel
theorem dX3_mixColumns_36 : decode cX3_mixColumns 36 = .ok (.lxor, 1) := by decide +kernel
theorem dX3_mixColumns_37 : decode cX3_mixColumns 37 = .ok (.lstore_n 1, 1) := by decide +kernel
theorem dX3_mixColumns_38 : decode cX3_mixColumns 38 = .ok (.aload_n 0, 1) := by decide +kernel
theorem dX3_mixColumns_39 : decode cX3_mixColumns 39 = .ok (.getfield 9, 3) := by decide +kernel
theorem dX3_mixColumns_42 : decode cX3_mixColumns 42 = .ok (.iconst 1, 1) := by decide +kernel
theorem dX3_mixColumns_43 : decode cX3_mixColumns 43 = .ok (.laload, 1) := by decide +kernel
theorem dX3_mixColumns_44 : decode cX3_mixColumns 44 = .ok (.aload_n 0, 1) := by decide +kernel
theorem dX3_mixColumns_45 : decode cX3_mixColumns 45 = .ok (.getfield 9, 3) := by decide +kernel
theorem dX3_mixColumns_48 : decode cX3_mixColumns 48 = .ok (.bipush 6, 2) := by decide +kernel
theorem dX3_mixColumns_50 : decode cX3_mixColumns 50 = .ok (.laload, 1) := by decide +kernel
theorem dX3_mixColumns_51 : decode cX3_mixColumns 51 = .ok (.lxor, 1) := by decide +kernel
theorem dX3_mixColumns_52 : decode cX3_mixColumns 52 = .ok (.aload_n 0, 1) := by decide +kernel
theorem dX3_mixColumns_53 : decode cX3_mixColumns 53 = .ok (.getfield 9, 3) := by decide +kernel
theorem dX3_mixColumns_56 : decode cX3_mixColumns 56 = .ok (.bipush 11, 2) := by decide +kernel
theorem dX3_mixColumns_58 : decode cX3_mixColumns 58 = .ok (.laload, 1) := by decide +kernel
theorem dX3_mixColumns_59 : decode cX3_mixColumns 59 = .ok (.lxor, 1) := by decide +kernel
theorem dX3_mixColumns_60 : decode cX3_mixColumns 60 = .ok (.aload_n 0, 1) := by decide +kernel
theorem dX3_mixColumns_61 : decode cX3_mixColumns 61 = .ok (.getfield 9, 3) := by decide +kernel
theorem dX3_mixColumns_64 : decode cX3_mixColumns 64 = .ok (.bipush 16, 2) := by decide +kernel
theorem dX3_mixColumns_66 : decode cX3_mixColumns 66 = .ok (.laload, 1) := by decide +kernel
theorem dX3_mixColumns_67 : decode cX3_mixColumns 67 = .ok (.lxor, 1) := by decide +kernel
theorem dX3_mixColumns_68 : decode cX3_mixColumns 68 = .ok (.aload_n 0, 1) := by decide +kernel
theorem dX3_mixColumns_69 : decode cX3_mixColumns 69 = .ok (.getfield 9, 3) := by decide +kernel
theorem dX3_mixColumns_72 : decode cX3_mixColumns 72 = .ok (.bipush 21, 2) := by decide +kernel
theorem dX3_mixColumns_74 : decode cX3_mixColumns 74 = .ok (.laload, 1) := by decide +kernel
theorem dX3_mixColumns_75 : decode cX3_mixColumns 75 = .ok (.lxor, 1) := by decide +kernel
theorem dX3_mixColumns_76 : decode cX3_mixColumns 76 = .ok (.lstore_n 3, 1) := by decide +kernel
theorem dX3_mixColumns_77 : decode cX3_mixColumns 77 = .ok (.aload_n 0, 1) := by decide +kernel
theorem dX3_mixColumns_78 : decode cX3_mixColumns 78 = .ok (.getfield 9, 3) := by decide +kernel
theorem dX3_mixColumns_81 : decode cX3_mixColumns 81 = .ok (.iconst 2, 1) := by decide +kernel
theorem dX3_mixColumns_82 : decode cX3_mixColumns 82 = .ok (.laload, 1) := by decide +kernel
theorem dX3_mixColumns_83 : decode cX3_mixColumns 83 = .ok (.aload_n 0, 1) := by decide +kernel
theorem dX3_mixColumns_84 : decode cX3_mixColumns 84 = .ok (.getfield 9, 3) := by decide +kernel
theorem dX3_mixColumns_87 : decode cX3_mixColumns 87 = .ok (.bipush 7, 2) := by decide +kernel
theorem dX3_mixColumns_89 : decode cX3_mixColumns 89 = .ok (.laload, 1) := by decide +kernel
theorem dX3_mixColumns_90 : decode cX3_mixColumns 90 = .ok (.lxor, 1) := by decide +kernel
theorem dX3_mixColumns_91 : decode cX3_mixColumns 91 = .ok (.aload_n 0, 1) := by decide +kernel
theorem dX3_mixColumns_92 : decode cX3_mixColumns 92 = .ok (.getfield 9, 3) := by decide +kernel
theorem dX3_mixColumns_95 : decode cX3_mixColumns 95 = .ok (.bipush 12, 2) := by decide +kernel
theorem dX3_mixColumns_97 : decode cX3_mixColumns 97 = .ok (.laload, 1) := by decide +kernel
theorem dX3_mixColumns_98 : decode cX3_mixColumns 98 = .ok (.lxor, 1) := by decide +kernel
theorem dX3_mixColumns_99 : decode cX3_mixColumns 99 = .ok (.aload_n 0, 1) := by decide +kernel
theorem dX3_mixColumns_100 : decode cX3_mixColumns 100 = .ok (.getfield 9, 3) := by decide +kernel
theorem dX3_mixColumns_103 : decode cX3_mixColumns 103 = .ok (.bipush 17, 2) := by decide +kernel
theorem dX3_mixColumns_105 : decode cX3_mixColumns 105 = .ok (.laload, 1) := by decide +kernel
theorem dX3_mixColumns_106 : decode cX3_mixColumns 106 = .ok (.lxor, 1) := by decide +kernel
theorem dX3_mixColumns_107 : decode cX3_mixColumns 107 = .ok (.aload_n 0, 1) := by decide +kernel
theorem dX3_mixColumns_108 : decode cX3_mixColumns 108 = .ok (.getfield 9, 3) := by decide +kernel
theorem dX3_mixColumns_111 : decode cX3_mixColumns 111 = .ok (.bipush 22, 2) := by decide +kernel
theorem dX3_mixColumns_113 : decode cX3_mixColumns 113 = .ok (.laload, 1) := by decide +kernel
theorem dX3_mixColumns_114 : decode cX3_mixColumns 114 = .ok (.lxor, 1) := by decide +kernel
theorem dX3_mixColumns_115 : decode cX3_mixColumns 115 = .ok (.lstore 5, 2) := by decide +kernel
theorem dX3_mixColumns_117 : decode cX3_mixColumns 117 = .ok (.aload_n 0, 1) := by decide +kernel
theorem dX3_mixColumns_118 : decode cX3_mixColumns 118 = .ok (.getfield 9, 3) := by decide +kernel
theorem dX3_mixColumns_121 : decode cX3_mixColumns 121 = .ok (.iconst 3, 1) := by decide +kernel
theorem dX3_mixColumns_122 : decode cX3_mixColumns 122 = .ok (.laload, 1) := by decide +kernel
theorem dX3_mixColumns_123 : decode cX3_mixColumns 123 = .ok (.aload_n 0, 1) := by decide +kernel
theorem dX3_mixColumns_124 : decode cX3_mixColumns 124 = .ok (.getfield 9, 3) := by decide +kernel
theorem dX3_mixColumns_127 : decode cX3_mixColumns 127 = .ok (.bipush 8, 2) := by decide +kernel
theorem dX3_mixColumns_129 : decode cX3_mixColumns 129 = .ok (.laload, 1) := by decide +kernel
theorem dX3_mixColumns_130 : decode cX3_mixColumns 130 = .ok (.lxor, 1) := by decide +kernel
theorem dX3_mixColumns_131 : decode cX3_mixColumns 131 = .ok (.aload_n 0, 1) := by decide +kernel
theorem dX3_mixColumns_132 : decode cX3_mixColumns 132 = .ok (.getfield 9, 3) := by decide +kernel
theorem dX3_mixColumns_135 : decode cX3_mixColumns 135 = .ok (.bipush 13, 2) := by decide +kernel
theorem dX3_mixColumns_137 : decode cX3_mixColumns 137 = .ok (.laload, 1) := by decide +kernel
theorem dX3_mixColumns_138 : decode cX3_mixColumns 138 = .ok (.lxor, 1) := by decide +kernel
theorem dX3_mixColumns_139 : decode cX3_mixColumns 139 = .ok (.aload_n 0, 1) := by decide +kernel
theorem dX3_mixColumns_140 : decode cX3_mixColumns 140 = .ok (.getfield 9, 3) := by decide +kernel
theorem dX3_mixColumns_143 : decode cX3_mixColumns 143 = .ok (.bipush 18, 2) := by decide +kernel
theorem dX3_mixColumns_145 : decode cX3_mixColumns 145 = .ok (.laload, 1) := by decide +kernel
theorem dX3_mixColumns_146 : decode cX3_mixColumns 146 = .ok (.lxor, 1) := by decide +kernel
theorem dX3_mixColumns_147 : decode cX3_mixColumns 147 = .ok (.aload_n 0, 1) := by decide +kernel
theorem dX3_mixColumns_148 : decode cX3_mixColumns 148 = .ok (.getfield 9, 3) := by decide +kernel
theorem dX3_mixColumns_151 : decode cX3_mixColumns 151 = .ok (.bipush 23, 2) := by decide +kernel
theorem dX3_mixColumns_153 : decode cX3_mixColumns 153 = .ok (.laload, 1) := by decide +kernel
theorem dX3_mixColumns_154 : decode cX3_mixColumns 154 = .ok (.lxor, 1) := by decide +kernel
theorem dX3_mixColumns_155 : decode cX3_mixColumns 155 = .ok (.lstore 7, 2) := by decide +kernel
theorem dX3_mixColumns_157 : decode cX3_mixColumns 157 = .ok (.aload_n 0, 1) := by decide +kernel
theorem dX3_mixColumns_158 : decode cX3_mixColumns 158 = .ok (.getfield 9, 3) := by decide +kernel
theorem dX3_mixColumns_161 : decode cX3_mixColumns 161 = .ok (.iconst 4, 1) := by decide +kernel
theorem dX3_mixColumns_162 : decode cX3_mixColumns 162 = .ok (.laload, 1) := by decide +kernel
theorem dX3_mixColumns_163 : decode cX3_mixColumns 163 = .ok (.aload_n 0, 1) := by decide +kernel
theorem dX3_mixColumns_164 : decode cX3_mixColumns 164 = .ok (.getfield 9, 3) := by decide +kernel
theorem dX3_mixColumns_167 : decode cX3_mixColumns 167 = .ok (.bipush 9, 2) := by decide +kernel
theorem dX3_mixColumns_169 : decode cX3_mixColumns 169 = .ok (.laload, 1) := by decide +kernel
theorem dX3_mixColumns_170 : decode cX3_mixColumns 170 = .ok (.lxor, 1) := by decide +kernel
theorem dX3_mixColumns_171 : decode cX3_mixColumns 171 = .ok (.aload_n 0, 1) := by decide +kernel
theorem dX3_mixColumns_172 : decode cX3_mixColumns 172 = .ok (.getfield 9, 3) := by decide +kernel
theorem dX3_mixColumns_175 : decode cX3_mixColumns 175 = .ok (.bipush 14, 2) := by decide +kernel
theorem dX3_mixColumns_177 : decode cX3_mixColumns 177 = .ok (.laload, 1) := by decide +kernel
theorem dX3_mixColumns_178 : decode cX3_mixColumns 178 = .ok (.lxor, 1) := by decide +kernel
theorem dX3_mixColumns_179 : decode cX3_mixColumns 179 = .ok (.aload_n 0, 1) := by decide +kernel
theorem dX3_mixColumns_180 : decode cX3_mixColumns 180 = .ok (.getfield 9, 3) := by decide +kernel
theorem dX3_mixColumns_183 : decode cX3_mixColumns 183 = .ok (.bipush 19, 2) := by decide +kernel
theorem dX3_mixColumns_185 : decode cX3_mixColumns 185 = .ok (.laload, 1) := by decide +kernel
theorem dX3_mixColumns_186 : decode cX3_mixColumns 186 = .ok (.lxor, 1) := by decide +kernel
theorem dX3_mixColumns_187 : decode cX3_mixColumns 187 = .ok (.aload_n 0, 1) := by decide +kernel
theorem dX3_mixColumns_188 : decode cX3_mixColumns 188 = .ok (.getfield 9, 3) := by decide +kernel
theorem dX3_mixColumns_191 : decode cX3_mixColumns 191 = .ok (.bipush 24, 2) := by decide +kernel
theorem dX3_mixColumns_193 : decode cX3_mixColumns 193 = .ok (.laload, 1) := by decide +kernel
theorem dX3_mixColumns_194 : decode cX3_mixColumns 194 = .ok (.lxor, 1) := by decide +kernel
theorem dX3_mixColumns_195 : decode cX3_mixColumns 195 = .ok (.lstore 9, 2) := by decide +kernel
theorem dX3_mixColumns_197 : decode cX3_mixColumns 197 = .ok (.lload 9, 2) := by decide +kernel
theorem dX3_mixColumns_199 : decode cX3_mixColumns 199 = .ok (.lload_n 3, 1) := by decide +kernel
theorem dX3_mixColumns_200 : decode cX3_mixColumns 200 = .ok (.iconst 1, 1) := by decide +kernel
theorem dX3_mixColumns_201 : decode cX3_mixColumns 201 = .ok (.lshl, 1) := by decide +kernel
theorem dX3_mixColumns_202 : decode cX3_mixColumns 202 = .ok (.lload_n 3, 1) := by decide +kernel
theorem dX3_mixColumns_203 : decode cX3_mixColumns 203 = .ok (.bipush 63, 2) := by decide +kernel
theorem dX3_mixColumns_205 : decode cX3_mixColumns 205 = .ok (.lushr, 1) := by decide +kernel
theorem dX3_mixColumns_206 : decode cX3_mixColumns 206 = .ok (.lor, 1) := by decide +kernel
theorem dX3_mixColumns_207 : decode cX3_mixColumns 207 = .ok (.lxor, 1) := by decide +kernel
theorem dX3_mixColumns_208 : decode cX3_mixColumns 208 = .ok (.lstore 11, 2) := by decide +kernel
theorem dX3_mixColumns_210 : decode cX3_mixColumns 210 = .ok (.lload_n 1, 1) := by decide +kernel
theorem dX3_mixColumns_211 : decode cX3_mixColumns 211 = .ok (.lload 5, 2) := by decide +kernel
theorem dX3_mixColumns_213 : decode cX3_mixColumns 213 = .ok (.iconst 1, 1) := by decide +kernel
theorem dX3_mixColumns_214 : decode cX3_mixColumns 214 = .ok (.lshl, 1) := by decide +kernel
theorem dX3_mixColumns_215 : decode cX3_mixColumns 215 = .ok (.lload 5, 2) := by decide +kernel
theorem dX3_mixColumns_217 : decode cX3_mixColumns 217 = .ok (.bipush 63, 2) := by decide +kernel
theorem dX3_mixColumns_219 : decode cX3_mixColumns 219 = .ok (.lushr, 1) := by decide +kernel
theorem dX3_mixColumns_220 : decode cX3_mixColumns 220 = .ok (.lor, 1) := by decide +kernel
theorem dX3_mixColumns_221 : decode cX3_mixColumns 221 = .ok (.lxor, 1) := by decide +kernel
theorem dX3_mixColumns_222 : decode cX3_mixColumns 222 = .ok (.lstore 13, 2) := by decide +kernel
theorem dX3_mixColumns_224 : decode cX3_mixColumns 224 = .ok (.lload_n 3, 1) := by decide +kernel
theorem dX3_mixColumns_225 : decode cX3_mixColumns 225 = .ok (.lload 7, 2) := by decide +kernel
theorem dX3_mixColumns_227 : decode cX3_mixColumns 227 = .ok (.iconst 1, 1) := by decide +kernel
theorem dX3_mixColumns_228 : decode cX3_mixColumns 228 = .ok (.lshl, 1) := by decide +kernel
theorem dX3_mixColumns_229 : decode cX3_mixColumns 229 = .ok (.lload 7, 2) := by decide +kernel
theorem dX3_mixColumns_231 : decode cX3_mixColumns 231 = .ok (.bipush 63, 2) := by decide +kernel
theorem dX3_mixColumns_233 : decode cX3_mixColumns 233 = .ok (.lushr, 1) := by decide +kernel
theorem dX3_mixColumns_234 : decode cX3_mixColumns 234 = .ok (.lor, 1) := by decide +kernel
theorem dX3_mixColumns_235 : decode cX3_mixColumns 235 = .ok (.lxor, 1) := by decide +kernel
theorem dX3_mixColumns_236 : decode cX3_mixColumns 236 = .ok (.lstore 15, 2) := by decide +kernel
theorem dX3_mixColumns_238 : decode cX3_mixColumns 238 = .ok (.lload 5, 2) := by decide +kernel
theorem dX3_mixColumns_240 : decode cX3_mixColumns 240 = .ok (.lload 9, 2) := by decide +kernel
theorem dX3_mixColumns_242 : decode cX3_mixColumns 242 = .ok (.iconst 1, 1) := by decide +kernel
theorem dX3_mixColumns_243 : decode cX3_mixColumns 243 = .ok (.lshl, 1) := by decide +kernel
theorem dX3_mixColumns_244 : decode cX3_mixColumns 244 = .ok (.lload 9, 2) := by decide +kernel
theorem dX3_mixColumns_246 : decode cX3_mixColumns 246 = .ok (.bipush 63, 2) := by decide +kernel
theorem dX3_mixColumns_248 : decode cX3_mixColumns 248 = .ok (.lushr, 1) := by decide +kernel
theorem dX3_mixColumns_249 : decode cX3_mixColumns 249 = .ok (.lor, 1) := by decide +kernel
theorem dX3_mixColumns_250 : decode cX3_mixColumns 250 = .ok (.lxor, 1) := by decide +kernel
theorem dX3_mixColumns_251 : decode cX3_mixColumns 251 = .ok (.lstore 17, 2) := by decide +kernel
theorem dX3_mixColumns_253 : decode cX3_mixColumns 253 = .ok (.lload 7, 2) := by decide +kernel
theorem dX3_mixColumns_255 : decode cX3_mixColumns 255 = .ok (.lload_n 1, 1) := by decide +kernel
theorem dX3_mixColumns_256 : decode cX3_mixColumns 256 = .ok (.iconst 1, 1) := by decide +kernel
theorem dX3_mixColumns_257 : decode cX3_mixColumns 257 = .ok (.lshl, 1) := by decide +kernel
theorem dX3_mixColumns_258 : decode cX3_mixColumns 258 = .ok (.lload_n 1, 1) := by decide +kernel
theorem dX3_mixColumns_259 : decode cX3_mixColumns 259 = .ok (.bipush 63, 2) := by decide +kernel
theorem dX3_mixColumns_261 : decode cX3_mixColumns 261 = .ok (.lushr, 1) := by decide +kernel
theorem dX3_mixColumns_262 : decode cX3_mixColumns 262 = .ok (.lor, 1) := by decide +kernel
theorem dX3_mixColumns_263 : decode cX3_mixColumns 263 = .ok (.lxor, 1) := by decide +kernel
theorem dX3_mixColumns_264 : decode cX3_mixColumns 264 = .ok (.lstore 19, 2) := by decide +kernel
theorem dX3_mixColumns_266 : decode cX3_mixColumns 266 = .ok (.iconst 0, 1) := by decide +kernel
theorem dX3_mixColumns_267 : decode cX3_mixColumns 267 = .ok (.istore 21, 2) := by decide +kernel
theorem dX3_mixColumns_269 : decode cX3_mixColumns 269 = .ok (.iload 21, 2) := by decide +kernel
theorem dX3_mixColumns_271 : decode cX3_mixColumns 271 = .ok (.bipush 25, 2) := by decide +kernel
theorem dX3_mixColumns_273 : decode cX3_mixColumns 273 = .ok (.if_icmp .ge 77, 3) := by decide +kernel
theorem dX3_mixColumns_276 : decode cX3_mixColumns 276 = .ok (.aload_n 0, 1) := by decide +kernel
theorem dX3_mixColumns_277 : decode cX3_mixColumns 277 = .ok (.getfield 9, 3) := by decide +kernel
theorem dX3_mixColumns_280 : decode cX3_mixColumns 280 = .ok (.iload 21, 2) := by decide +kernel
theorem dX3_mixColumns_282 : decode cX3_mixColumns 282 = .ok (.dup2, 1) := by decide +kernel
theorem dX3_mixColumns_283 : decode cX3_mixColumns 283 = .ok (.laload, 1) := by decide +kernel
theorem dX3_mixColumns_284 : decode cX3_mixColumns 284 = .ok (.lload 11, 2) := by decide +kernel
theorem dX3_mixColumns_286 : decode cX3_mixColumns 286 = .ok (.lxor, 1) := by decide +kernel
theorem dX3_mixColumns_287 : decode cX3_mixColumns 287 = .ok (.lastore, 1) := by decide +kernel
theorem dX3_mixColumns_288 : decode cX3_mixColumns 288 = .ok (.aload_n 0, 1) := by decide +kernel
theorem dX3_mixColumns_289 : decode cX3_mixColumns 289 = .ok (.getfield 9, 3) := by decide +kernel
theorem dX3_mixColumns_292 : decode cX3_mixColumns 292 = .ok (.iload 21, 2) := by decide +kernel
theorem dX3_mixColumns_294 : decode cX3_mixColumns 294 = .ok (.iconst 1, 1) := by decide +kernel
theorem dX3_mixColumns_295 : decode cX3_mixColumns 295 = .ok (.iadd, 1) := by decide +kernel
theorem dX3_mixColumns_296 : decode cX3_mixColumns 296 = .ok (.dup2, 1) := by decide +kernel
theorem dX3_mixColumns_297 : decode cX3_mixColumns 297 = .ok (.laload, 1) := by decide +kernel
theorem dX3_mixColumns_298 : decode cX3_mixColumns 298 = .ok (.lload 13, 2) := by decide +kernel
theorem dX3_mixColumns_300 : decode cX3_mixColumns 300 = .ok (.lxor, 1) := by decide +kernel
theorem dX3_mixColumns_301 : decode cX3_mixColumns 301 = .ok (.lastore, 1) := by decide +kernel
theorem dX3_mixColumns_302 : decode cX3_mixColumns 302 = .ok (.aload_n 0, 1) := by decide +kernel
theorem dX3_mixColumns_303 : decode cX3_mixColumns 303 = .ok (.getfield 9, 3) := by decide +kernel
theorem dX3_mixColumns_306 : decode cX3_mixColumns 306 = .ok (.iload 21, 2) := by decide +kernel
theorem dX3_mixColumns_308 : decode cX3_mixColumns 308 = .ok (.iconst 2, 1) := by decide +kernel
theorem dX3_mixColumns_309 : decode cX3_mixColumns 309 = .ok (.iadd, 1) := by decide +kernel
theorem dX3_mixColumns_310 : decode cX3_mixColumns 310 = .ok (.dup2, 1) := by decide +kernel
theorem dX3_mixColumns_311 : decode cX3_mixColumns 311 = .ok (.laload, 1) := by decide +kernel
theorem dX3_mixColumns_312 : decode cX3_mixColumns 312 = .ok (.lload 15, 2) := by decide +kernel
theorem dX3_mixColumns_314 : decode cX3_mixColumns 314 = .ok (.lxor, 1) := by decide +kernel
theorem dX3_mixColumns_315 : decode cX3_mixColumns 315 = .ok (.lastore, 1) := by decide +kernel
theorem dX3_mixColumns_316 : decode cX3_mixColumns 316 = .ok (.aload_n 0, 1) := by decide +kernel
theorem dX3_mixColumns_317 : decode cX3_mixColumns 317 = .ok (.getfield 9, 3) := by decide +kernel
theorem dX3_mixColumns_320 : decode cX3_mixColumns 320 = .ok (.iload 21, 2) := by decide +kernel
theorem dX3_mixColumns_322 : decode cX3_mixColumns 322 = .ok (.iconst 3, 1) := by decide +kernel
theorem dX3_mixColumns_323 : decode cX3_mixColumns 323 = .ok (.iadd, 1) := by decide +kernel
theorem dX3_mixColumns_324 : decode cX3_mixColumns 324 = .ok (.dup2, 1) := by decide +kernel
theorem dX3_mixColumns_325 : decode cX3_mixColumns 325 = .ok (.laload, 1) := by decide +kernel
theorem dX3_mixColumns_326 : decode cX3_mixColumns 326 = .ok (.lload 17, 2) := by decide +kernel
theorem dX3_mixColumns_328 : decode cX3_mixColumns 328 = .ok (.lxor, 1) := by decide +kernel
theorem dX3_mixColumns_329 : decode cX3_mixColumns 329 = .ok (.lastore, 1) := by decide +kernel
theorem dX3_mixColumns_330 : decode cX3_mixColumns 330 = .ok (.aload_n 0, 1) := by decide +kernel
theorem dX3_mixColumns_331 : decode cX3_mixColumns 331 = .ok (.getfield 9, 3) := by decide +kernel
theorem dX3_mixColumns_334 : decode cX3_mixColumns 334 = .ok (.iload 21, 2) := by decide +kernel
theorem dX3_mixColumns_336 : decode cX3_mixColumns 336 = .ok (.iconst 4, 1) := by decide +kernel
theorem dX3_mixColumns_337 : decode cX3_mixColumns 337 = .ok (.iadd, 1) := by decide +kernel
theorem dX3_mixColumns_338 : decode cX3_mixColumns 338 = .ok (.dup2, 1) := by decide +kernel
theorem dX3_mixColumns_339 : decode cX3_mixColumns 339 = .ok (.laload, 1) := by decide +kernel
theorem dX3_mixColumns_340 : decode cX3_mixColumns 340 = .ok (.lload 19, 2) := by decide +kernel
theorem dX3_mixColumns_342 : decode cX3_mixColumns 342 = .ok (.lxor, 1) := by decide +kernel
theorem dX3_mixColumns_343 : decode cX3_mixColumns 343 = .ok (.lastore, 1) := by decide +kernel
theorem dX3_mixColumns_344 : decode cX3_mixColumns 344 = .ok (.iinc 21 5, 3) := by decide +kernel
theorem dX3_mixColumns_347 : decode cX3_mixColumns 347 = .ok (.goto (-78), 3) := by decide +kernel
theorem dX3_mixColumns_350 : decode cX3_mixColumns 350 = .ok (.return_, 1) := by decide +kernel
theorem dX3_turnAndMixRows_0 : decode cX3_turnAndMixRows 0 = .ok (.iconst 0, 1) := by decide +kernel
theorem dX3_turnAndMixRows_1 : decode cX3_turnAndMixRows 1 = .ok (.istore_n 3, 1) := by decide +kernel
theorem dX3_turnAndMixRows_2 : decode cX3_turnAndMixRows 2 = .ok (.iload_n 3, 1) := by decide +kernel
theorem dX3_turnAndMixRows_3 : decode cX3_turnAndMixRows 3 = .ok (.bipush 25, 2) := by decide +kernel
theorem dX3_turnAndMixRows_5 : decode cX3_turnAndMixRows 5 = .ok (.if_icmp .ge 47, 3) := by decide +kernel
theorem dX3_turnAndMixRows_8 : decode cX3_turnAndMixRows 8 = .ok (.aload_n 0, 1) := by decide +kernel
theorem dX3_turnAndMixRows_9 : decode cX3_turnAndMixRows 9 = .ok (.getfield 15, 3) := by decide +kernel
theorem dX3_turnAndMixRows_12 : decode cX3_turnAndMixRows 12 = .ok (.getstatic 61, 3) := by decide +kernel
theorem dX3_turnAndMixRows_15 : decode cX3_turnAndMixRows 15 = .ok (.iload_n 3, 1) := by decide +kernel
theorem dX3_turnAndMixRows_16 : decode cX3_turnAndMixRows 16 = .ok (.iaload, 1) := by decide +kernel
theorem dX3_turnAndMixRows_17 : decode cX3_turnAndMixRows 17 = .ok (.aload_n 0, 1) := by decide +kernel
theorem dX3_turnAndMixRows_18 : decode cX3_turnAndMixRows 18 = .ok (.getfield 9, 3) := by decide +kernel
theorem dX3_turnAndMixRows_21 : decode cX3_turnAndMixRows 21 = .ok (.iload_n 3, 1) := by decide +kernel
theorem dX3_turnAndMixRows_22 : decode cX3_turnAndMixRows 22 = .ok (.laload, 1) := by decide +kernel
theorem dX3_turnAndMixRows_23 : decode cX3_turnAndMixRows 23 = .ok (.getstatic 65, 3) := by decide +kernel
theorem dX3_turnAndMixRows_26 : decode cX3_turnAndMixRows 26 = .ok (.iload_n 3, 1) := by decide +kernel
theorem dX3_turnAndMixRows_27 : decode cX3_turnAndMixRows 27 = .ok (.iaload, 1) := by decide +kernel
theorem dX3_turnAndMixRows_28 : decode cX3_turnAndMixRows 28 = .ok (.lshl, 1) := by decide +kernel
theorem dX3_turnAndMixRows_29 : decode cX3_turnAndMixRows 29 = .ok (.aload_n 0, 1) := by decide +kernel
theorem dX3_turnAndMixRows_30 : decode cX3_turnAndMixRows 30 = .ok (.getfield 9, 3) := by decide +kernel
theorem dX3_turnAndMixRows_33 : decode cX3_turnAndMixRows 33 = .ok (.iload_n 3, 1) := by decide +kernel
theorem dX3_turnAndMixRows_34 : decode cX3_turnAndMixRows 34 = .ok (.laload, 1) := by decide +kernel
theorem dX3_turnAndMixRows_35 : decode cX3_turnAndMixRows 35 = .ok (.bipush 64, 2) := by decide +kernel
theorem dX3_turnAndMixRows_37 : decode cX3_turnAndMixRows 37 = .ok (.getstatic 65, 3) := by decide +kernel
theorem dX3_turnAndMixRows_40 : decode cX3_turnAndMixRows 40 = .ok (.iload_n 3, 1) := by decide +kernel
theorem dX3_turnAndMixRows_41 : decode cX3_turnAndMixRows 41 = .ok (.iaload, 1) := by decide +kernel
theorem dX3_turnAndMixRows_42 : decode cX3_turnAndMixRows 42 = .ok (.isub, 1) := by decide +kernel
theorem dX3_turnAndMixRows_43 : decode cX3_turnAndMixRows 43 = .ok (.lushr, 1) := by decide +kernel
theorem dX3_turnAndMixRows_44 : decode cX3_turnAndMixRows 44 = .ok (.lor, 1) := by decide +kernel
theorem dX3_turnAndMixRows_45 : decode cX3_turnAndMixRows 45 = .ok (.lastore, 1) := by decide +kernel
theorem dX3_turnAndMixRows_46 : decode cX3_turnAndMixRows 46 = .ok (.iinc 3 1, 3) := by decide +kernel
theorem dX3_turnAndMixRows_49 : decode cX3_turnAndMixRows 49 = .ok (.goto (-47), 3) := by decide +kernel
theorem dX3_turnAndMixRows_52 : decode cX3_turnAndMixRows 52 = .ok (.iconst 0, 1) := by decide +kernel
theorem dX3_turnAndMixRows_53 : decode cX3_turnAndMixRows 53 = .ok (.istore_n 3, 1) := by decide +kernel
theorem dX3_turnAndMixRows_54 : decode cX3_turnAndMixRows 54 = .ok (.iload_n 3, 1) := by decide +kernel
theorem dX3_turnAndMixRows_55 : decode cX3_turnAndMixRows 55 = .ok (.bipush 25, 2) := by decide +kernel
theorem dX3_turnAndMixRows_57 : decode cX3_turnAndMixRows 57 = .ok (.if_icmp .ge 155, 3) := by decide +kernel
theorem dX3_turnAndMixRows_60 : decode cX3_turnAndMixRows 60 = .ok (.aload_n 0, 1) := by decide +kernel
theorem dX3_turnAndMixRows_61 : decode cX3_turnAndMixRows 61 = .ok (.getfield 15, 3) := by decide +kernel
theorem dX3_turnAndMixRows_64 : decode cX3_turnAndMixRows 64 = .ok (.iload_n 3, 1) := by decide +kernel
theorem dX3_turnAndMixRows_65 : decode cX3_turnAndMixRows 65 = .ok (.laload, 1) := by decide +kernel
theorem dX3_turnAndMixRows_66 : decode cX3_turnAndMixRows 66 = .ok (.lstore 4, 2) := by decide +kernel
theorem dX3_turnAndMixRows_68 : decode cX3_turnAndMixRows 68 = .ok (.aload_n 0, 1) := by decide +kernel
theorem dX3_turnAndMixRows_69 : decode cX3_turnAndMixRows 69 = .ok (.getfield 15, 3) := by decide +kernel
theorem dX3_turnAndMixRows_72 : decode cX3_turnAndMixRows 72 = .ok (.iload_n 3, 1) := by decide +kernel
theorem dX3_turnAndMixRows_73 : decode cX3_turnAndMixRows 73 = .ok (.iconst 1, 1) := by decide +kernel
theorem dX3_turnAndMixRows_74 : decode cX3_turnAndMixRows 74 = .ok (.iadd, 1) := by decide +kernel
theorem dX3_turnAndMixRows_75 : decode cX3_turnAndMixRows 75 = .ok (.laload, 1) := by decide +kernel
theorem dX3_turnAndMixRows_76 : decode cX3_turnAndMixRows 76 = .ok (.lstore 6, 2) := by decide +kernel
theorem dX3_turnAndMixRows_78 : decode cX3_turnAndMixRows 78 = .ok (.aload_n 0, 1) := by decide +kernel
theorem dX3_turnAndMixRows_79 : decode cX3_turnAndMixRows 79 = .ok (.getfield 15, 3) := by decide +kernel
theorem dX3_turnAndMixRows_82 : decode cX3_turnAndMixRows 82 = .ok (.iload_n 3, 1) := by decide +kernel
theorem dX3_turnAndMixRows_83 : decode cX3_turnAndMixRows 83 = .ok (.iconst 2, 1) := by decide +kernel
theorem dX3_turnAndMixRows_84 : decode cX3_turnAndMixRows 84 = .ok (.iadd, 1) := by decide +kernel
theorem dX3_turnAndMixRows_85 : decode cX3_turnAndMixRows 85 = .ok (.laload, 1) := by decide +kernel
theorem dX3_turnAndMixRows_86 : decode cX3_turnAndMixRows 86 = .ok (.lstore 8, 2) := by decide +kernel
theorem dX3_turnAndMixRows_88 : decode cX3_turnAndMixRows 88 = .ok (.aload_n 0, 1) := by decide +kernel
theorem dX3_turnAndMixRows_89 : decode cX3_turnAndMixRows 89 = .ok (.getfield 15, 3) := by decide +kernel
theorem dX3_turnAndMixRows_92 : decode cX3_turnAndMixRows 92 = .ok (.iload_n 3, 1) := by decide +kernel
theorem dX3_turnAndMixRows_93 : decode cX3_turnAndMixRows 93 = .ok (.iconst 3, 1) := by decide +kernel
theorem dX3_turnAndMixRows_94 : decode cX3_turnAndMixRows 94 = .ok (.iadd, 1) := by decide +kernel
theorem dX3_turnAndMixRows_95 : decode cX3_turnAndMixRows 95 = .ok (.laload, 1) := by decide +kernel
theorem dX3_turnAndMixRows_96 : decode cX3_turnAndMixRows 96 = .ok (.lstore 10, 2) := by decide +kernel
theorem dX3_turnAndMixRows_98 : decode cX3_turnAndMixRows 98 = .ok (.aload_n 0, 1) := by decide +kernel
theorem dX3_turnAndMixRows_99 : decode cX3_turnAndMixRows 99 = .ok (.getfield 15, 3) := by decide +kernel
theorem dX3_turnAndMixRows_102 : decode cX3_turnAndMixRows 102 = .ok (.iload_n 3, 1) := by decide +kernel
theorem dX3_turnAndMixRows_103 : decode cX3_turnAndMixRows 103 = .ok (.iconst 4, 1) := by decide +kernel
theorem dX3_turnAndMixRows_104 : decode cX3_turnAndMixRows 104 = .ok (.iadd, 1) := by decide +kernel
theorem dX3_turnAndMixRows_105 : decode cX3_turnAndMixRows 105 = .ok (.laload, 1) := by decide +kernel
theorem dX3_turnAndMixRows_106 : decode cX3_turnAndMixRows 106 = .ok (.lstore 12, 2) := by decide +kernel
theorem dX3_turnAndMixRows_108 : decode cX3_turnAndMixRows 108 = .ok (.aload_n 0, 1) := by decide +kernel
theorem dX3_turnAndMixRows_109 : decode cX3_turnAndMixRows 109 = .ok (.getfield 9, 3) := by decide +kernel
theorem dX3_turnAndMixRows_112 : decode cX3_turnAndMixRows 112 = .ok (.iload_n 3, 1) := by decide +kernel
theorem dX3_turnAndMixRows_113 : decode cX3_turnAndMixRows 113 = .ok (.lload 4, 2) := by decide +kernel
theorem dX3_turnAndMixRows_115 : decode cX3_turnAndMixRows 115 = .ok (.lload 6, 2) := by decide +kernel
theorem dX3_turnAndMixRows_117 : decode cX3_turnAndMixRows 117 = .ok (.ldc2_w 68, 3) := by decide +kernel
theorem dX3_turnAndMixRows_120 : decode cX3_turnAndMixRows 120 = .ok (.lxor, 1) := by decide +kernel
theorem dX3_turnAndMixRows_121 : decode cX3_turnAndMixRows 121 = .ok (.lload 8, 2) := by decide +kernel
theorem dX3_turnAndMixRows_123 : decode cX3_turnAndMixRows 123 = .ok (.land, 1) := by decide +kernel
theorem dX3_turnAndMixRows_124 : decode cX3_turnAndMixRows 124 = .ok (.lxor, 1) := by decide +kernel
theorem dX3_turnAndMixRows_125 : decode cX3_turnAndMixRows 125 = .ok (.lastore, 1) := by decide +kernel
theorem dX3_turnAndMixRows_126 : decode cX3_turnAndMixRows 126 = .ok (.aload_n 0, 1) := by decide +kernel
theorem dX3_turnAndMixRows_127 : decode cX3_turnAndMixRows 127 = .ok (.getfield 9, 3) := by decide +kernel
theorem dX3_turnAndMixRows_130 : decode cX3_turnAndMixRows 130 = .ok (.iload_n 3, 1) := by decide +kernel
theorem dX3_turnAndMixRows_131 : decode cX3_turnAndMixRows 131 = .ok (.iconst 1, 1) := by decide +kernel
theorem dX3_turnAndMixRows_132 : decode cX3_turnAndMixRows 132 = .ok (.iadd, 1) := by decide +kernel
theorem dX3_turnAndMixRows_133 : decode cX3_turnAndMixRows 133 = .ok (.lload 6, 2) := by decide +kernel
theorem dX3_turnAndMixRows_135 : decode cX3_turnAndMixRows 135 = .ok (.lload 8, 2) := by decide +kernel
theorem dX3_turnAndMixRows_137 : decode cX3_turnAndMixRows 137 = .ok (.ldc2_w 68, 3) := by decide +kernel
theorem dX3_turnAndMixRows_140 : decode cX3_turnAndMixRows 140 = .ok (.lxor, 1) := by decide +kernel
theorem dX3_turnAndMixRows_141 : decode cX3_turnAndMixRows 141 = .ok (.lload 10, 2) := by decide +kernel
theorem dX3_turnAndMixRows_143 : decode cX3_turnAndMixRows 143 = .ok (.land, 1) := by decide +kernel
theorem dX3_turnAndMixRows_144 : decode cX3_turnAndMixRows 144 = .ok (.lxor, 1) := by decide +kernel
theorem dX3_turnAndMixRows_145 : decode cX3_turnAndMixRows 145 = .ok (.lastore, 1) := by decide +kernel
theorem dX3_turnAndMixRows_146 : decode cX3_turnAndMixRows 146 = .ok (.aload_n 0, 1) := by decide +kernel
theorem dX3_turnAndMixRows_147 : decode cX3_turnAndMixRows 147 = .ok (.getfield 9, 3) := by decide +kernel
theorem dX3_turnAndMixRows_150 : decode cX3_turnAndMixRows 150 = .ok (.iload_n 3, 1) := by decide +kernel
theorem dX3_turnAndMixRows_151 : decode cX3_turnAndMixRows 151 = .ok (.iconst 2, 1) := by decide +kernel
theorem dX3_turnAndMixRows_152 : decode cX3_turnAndMixRows 152 = .ok (.iadd, 1) := by decide +kernel
theorem dX3_turnAndMixRows_153 : decode cX3_turnAndMixRows 153 = .ok (.lload 8, 2) := by decide +kernel
theorem dX3_turnAndMixRows_155 : decode cX3_turnAndMixRows 155 = .ok (.lload 10, 2) := by decide +kernel
theorem dX3_turnAndMixRows_157 : decode cX3_turnAndMixRows 157 = .ok (.ldc2_w 68, 3) := by decide +kernel
theorem dX3_turnAndMixRows_160 : decode cX3_turnAndMixRows 160 = .ok (.lxor, 1) := by decide +kernel
theorem dX3_turnAndMixRows_161 : decode cX3_turnAndMixRows 161 = .ok (.lload 12, 2) := by decide +kernel
theorem dX3_turnAndMixRows_163 : decode cX3_turnAndMixRows 163 = .ok (.land, 1) := by decide +kernel
theorem dX3_turnAndMixRows_164 : decode cX3_turnAndMixRows 164 = .ok (.lxor, 1) := by decide +kernel
theorem dX3_turnAndMixRows_165 : decode cX3_turnAndMixRows 165 = .ok (.lastore, 1) := by decide +kernel
theorem dX3_turnAndMixRows_166 : decode cX3_turnAndMixRows 166 = .ok (.aload_n 0, 1) := by decide +kernel
theorem dX3_turnAndMixRows_167 : decode cX3_turnAndMixRows 167 = .ok (.getfield 9, 3) := by decide +kernel
theorem dX3_turnAndMixRows_170 : decode cX3_turnAndMixRows 170 = .ok (.iload_n 3, 1) := by decide +kernel
theorem dX3_turnAndMixRows_171 : decode cX3_turnAndMixRows 171 = .ok (.iconst 3, 1) := by decide +kernel
theorem dX3_turnAndMixRows_172 : decode cX3_turnAndMixRows 172 = .ok (.iadd, 1) := by decide +kernel
theorem dX3_turnAndMixRows_173 : decode cX3_turnAndMixRows 173 = .ok (.lload 10, 2) := by decide +kernel
theorem dX3_turnAndMixRows_175 : decode cX3_turnAndMixRows 175 = .ok (.lload 12, 2) := by decide +kernel
theorem dX3_turnAndMixRows_177 : decode cX3_turnAndMixRows 177 = .ok (.ldc2_w 68, 3) := by decide +kernel
theorem dX3_turnAndMixRows_180 : decode cX3_turnAndMixRows 180 = .ok (.lxor, 1) := by decide +kernel
theorem dX3_turnAndMixRows_181 : decode cX3_turnAndMixRows 181 = .ok (.lload 4, 2) := by decide +kernel
theorem dX3_turnAndMixRows_183 : decode cX3_turnAndMixRows 183 = .ok (.land, 1) := by decide +kernel
theorem dX3_turnAndMixRows_184 : decode cX3_turnAndMixRows 184 = .ok (.lxor, 1) := by decide +kernel
theorem dX3_turnAndMixRows_185 : decode cX3_turnAndMixRows 185 = .ok (.lastore, 1) := by decide +kernel
theorem dX3_turnAndMixRows_186 : decode cX3_turnAndMixRows 186 = .ok (.aload_n 0, 1) := by decide +kernel
theorem dX3_turnAndMixRows_187 : decode cX3_turnAndMixRows 187 = .ok (.getfield 9, 3) := by decide +kernel
theorem dX3_turnAndMixRows_190 : decode cX3_turnAndMixRows 190 = .ok (.iload_n 3, 1) := by decide +kernel
theorem dX3_turnAndMixRows_191 : decode cX3_turnAndMixRows 191 = .ok (.iconst 4, 1) := by decide +kernel
theorem dX3_turnAndMixRows_192 : decode cX3_turnAndMixRows 192 = .ok (.iadd, 1) := by decide +kernel
theorem dX3_turnAndMixRows_193 : decode cX3_turnAndMixRows 193 = .ok (.lload 12, 2) := by decide +kernel
theorem dX3_turnAndMixRows_195 : decode cX3_turnAndMixRows 195 = .ok (.lload 4, 2) := by decide +kernel
theorem dX3_turnAndMixRows_197 : decode cX3_turnAndMixRows 197 = .ok (.ldc2_w 68, 3) := by decide +kernel
theorem dX3_turnAndMixRows_200 : decode cX3_turnAndMixRows 200 = .ok (.lxor, 1) := by decide +kernel
theorem dX3_turnAndMixRows_201 : decode cX3_turnAndMixRows 201 = .ok (.lload 6, 2) := by decide +kernel
theorem dX3_turnAndMixRows_203 : decode cX3_turnAndMixRows 203 = .ok (.land, 1) := by decide +kernel
theorem dX3_turnAndMixRows_204 : decode cX3_turnAndMixRows 204 = .ok (.lxor, 1) := by decide +kernel
theorem dX3_turnAndMixRows_205 : decode cX3_turnAndMixRows 205 = .ok (.lastore, 1) := by decide +kernel
theorem dX3_turnAndMixRows_206 : decode cX3_turnAndMixRows 206 = .ok (.iinc 3 5, 3) := by decide +kernel
theorem dX3_turnAndMixRows_209 : decode cX3_turnAndMixRows 209 = .ok (.goto (-155), 3) := by decide +kernel
theorem dX3_turnAndMixRows_212 : decode cX3_turnAndMixRows 212 = .ok (.aload_n 0, 1) := by decide +kernel
theorem dX3_turnAndMixRows_213 : decode cX3_turnAndMixRows 213 = .ok (.getfield 9, 3) := by decide +kernel
theorem dX3_turnAndMixRows_216 : decode cX3_turnAndMixRows 216 = .ok (.iconst 0, 1) := by decide +kernel
theorem dX3_turnAndMixRows_217 : decode cX3_turnAndMixRows 217 = .ok (.dup2, 1) := by decide +kernel
theorem dX3_turnAndMixRows_218 : decode cX3_turnAndMixRows 218 = .ok (.laload, 1) := by decide +kernel
theorem dX3_turnAndMixRows_219 : decode cX3_turnAndMixRows 219 = .ok (.lload_n 1, 1) := by decide +kernel
theorem dX3_turnAndMixRows_220 : decode cX3_turnAndMixRows 220 = .ok (.lxor, 1) := by decide +kernel
theorem dX3_turnAndMixRows_221 : decode cX3_turnAndMixRows 221 = .ok (.lastore, 1) := by decide +kernel
theorem dX3_turnAndMixRows_222 : decode cX3_turnAndMixRows 222 = .ok (.return_, 1) := by decide +kernel
set_option maxRecDepth 20000 in
theorem ggX3_digest_X7_addNumber : GoodIn wsX3_digest wsX7_addNumber := goodIn_r _ [10, 11, 12, 43, 44] (by decide +kernel) (by decide +kernel)
set_option maxRecDepth 20000 in
theorem gX3_digest_X7_addNumber : GoodIn wsX3_digest (wsV RX3 20 RX7 yX7_addNumber wsX7_addNumber) := goodIn_app (goodIn_of _ (by decide +kernel)) ggX3_digest_X7_addNumber
set_option maxRecDepth 20000 in
theorem ggX3_digest_X7_at : GoodIn wsX3_digest wsX7_at := goodIn_r _ [16, 11, 12, 43, 44] (by decide +kernel) (by decide +kernel)
set_option maxRecDepth 20000 in
theorem gX3_digest_X7_at : GoodIn wsX3_digest (wsV RX3 30 RX7 yX7_at wsX7_at) := goodIn_app (goodIn_of _ (by decide +kernel)) ggX3_digest_X7_at
set_option maxRecDepth 20000 in
theorem ggX3_digest_X7_put : GoodIn wsX3_digest wsX7_put := goodIn_r _ [20, 11, 12, 43, 44] (by decide +kernel) (by decide +kernel)
set_option maxRecDepth 20000 in
theorem gX3_digest_X7_put : GoodIn wsX3_digest (wsV RX3 34 RX7 yX7_put wsX7_put) := goodIn_app (goodIn_of _ (by decide +kernel)) ggX3_digest_X7_put
set_option maxRecDepth 20000 in
theorem ggX3_digest_X3_absorb : GoodIn wsX3_digest wsX3_absorb := goodIn_r _ [25, 3, 26, 45, 46] (by decide +kernel) (by decide +kernel)
set_option maxRecDepth 20000 in
theorem gX3_digest_X3_absorb : GoodIn wsX3_digest (wsV RX3 42 RX3 yX3_absorb wsX3_absorb) := goodIn_app (goodIn_of _ (by decide +kernel)) ggX3_digest_X3_absorb
set_option maxRecDepth 20000 in
theorem ggX3_digest_X3_mixColumns : GoodIn wsX3_digest wsX3_mixColumns := goodIn_r _ [30, 3, 45, 46] (by decide +kernel) (by decide +kernel)
set_option maxRecDepth 20000 in
theorem gX3_digest_X3_mixColumns : GoodIn wsX3_digest (wsV RX3 46 RX3 yX3_mixColumns wsX3_mixColumns) := goodIn_app (goodIn_of _ (by decide +kernel)) ggX3_digest_X3_mixColumns
set_option maxRecDepth 20000 in
theorem ggX3_digest_X3_turnAndMixRows : GoodIn wsX3_digest wsX3_turnAndMixRows := goodIn_r _ [34, 35, 36, 3, 37, 38, 45, 46] (by decide +kernel) (by decide +kernel)
set_option maxRecDepth 20000 in
theorem gX3_digest_X3_turnAndMixRows : GoodIn wsX3_digest (wsV RX3 52 RX3 yX3_turnAndMixRows wsX3_turnAndMixRows) := goodIn_app (goodIn_of _ (by decide +kernel)) ggX3_digest_X3_turnAndMixRows
set_option maxRecDepth 20000 in
theorem ggX3_digest_X7_clear : GoodIn wsX3_digest wsX7_clear := goodIn_r _ [42, 11, 43, 44] (by decide +kernel) (by decide +kernel)
set_option maxRecDepth 20000 in
theorem gX3_digest_X7_clear : GoodIn wsX3_digest (wsV RX3 56 RX7 yX7_clear wsX7_clear) := goodIn_app (goodIn_of _ (by decide +kernel)) ggX3_digest_X7_clear
theorem dX3_digest_0 : decode cX3_digest 0 = .ok (.aload_n 1, 1) := by decide +kernel
theorem dX3_digest_1 : decode cX3_digest 1 = .ok (.ldc2_w 18, 3) := by decide +kernel
theorem dX3_digest_4 : decode cX3_digest 4 = .ok (.iconst 1, 1) := by decide +kernel
theorem dX3_digest_5 : decode cX3_digest 5 = .ok (.invokevirtual 20, 3) := by decide +kernel
theorem dX3_digest_8 : decode cX3_digest 8 = .ok (.aload_n 1, 1) := by decide +kernel
theorem dX3_digest_9 : decode cX3_digest 9 = .ok (.lconst 0, 1) := by decide +kernel
theorem dX3_digest_10 : decode cX3_digest 10 = .ok (.sipush 136, 3) := by decide +kernel
theorem dX3_digest_13 : decode cX3_digest 13 = .ok (.aload_n 1, 1) := by decide +kernel
theorem dX3_digest_14 : decode cX3_digest 14 = .ok (.getfield 26, 3) := by decide +kernel
theorem dX3_digest_17 : decode cX3_digest 17 = .ok (.sipush 136, 3) := by decide +kernel
theorem dX3_digest_20 : decode cX3_digest 20 = .ok (.irem, 1) := by decide +kernel
theorem dX3_digest_21 : decode cX3_digest 21 = .ok (.isub, 1) := by decide +kernel
theorem dX3_digest_22 : decode cX3_digest 22 = .ok (.sipush 136, 3) := by decide +kernel
theorem dX3_digest_25 : decode cX3_digest 25 = .ok (.irem, 1) := by decide +kernel
theorem dX3_digest_26 : decode cX3_digest 26 = .ok (.invokevirtual 20, 3) := by decide +kernel
theorem dX3_digest_29 : decode cX3_digest 29 = .ok (.aload_n 1, 1) := by decide +kernel
theorem dX3_digest_30 : decode cX3_digest 30 = .ok (.aload_n 1, 1) := by decide +kernel
theorem dX3_digest_31 : decode cX3_digest 31 = .ok (.getfield 26, 3) := by decide +kernel
theorem dX3_digest_34 : decode cX3_digest 34 = .ok (.iconst 1, 1) := by decide +kernel
theorem dX3_digest_35 : decode cX3_digest 35 = .ok (.isub, 1) := by decide +kernel
theorem dX3_digest_36 : decode cX3_digest 36 = .ok (.aload_n 1, 1) := by decide +kernel
theorem dX3_digest_37 : decode cX3_digest 37 = .ok (.aload_n 1, 1) := by decide +kernel
theorem dX3_digest_38 : decode cX3_digest 38 = .ok (.getfield 26, 3) := by decide +kernel
theorem dX3_digest_41 : decode cX3_digest 41 = .ok (.iconst 1, 1) := by decide +kernel
theorem dX3_digest_42 : decode cX3_digest 42 = .ok (.isub, 1) := by decide +kernel
theorem dX3_digest_43 : decode cX3_digest 43 = .ok (.invokevirtual 30, 3) := by decide +kernel
theorem dX3_digest_46 : decode cX3_digest 46 = .ok (.sipush 128, 3) := by decide +kernel
theorem dX3_digest_49 : decode cX3_digest 49 = .ok (.ixor, 1) := by decide +kernel
theorem dX3_digest_50 : decode cX3_digest 50 = .ok (.invokevirtual 34, 3) := by decide +kernel
theorem dX3_digest_53 : decode cX3_digest 53 = .ok (.iconst 0, 1) := by decide +kernel
theorem dX3_digest_54 : decode cX3_digest 54 = .ok (.istore_n 3, 1) := by decide +kernel
theorem dX3_digest_55 : decode cX3_digest 55 = .ok (.iload_n 3, 1) := by decide +kernel
theorem dX3_digest_56 : decode cX3_digest 56 = .ok (.bipush 25, 2) := by decide +kernel
theorem dX3_digest_58 : decode cX3_digest 58 = .ok (.if_icmp .ge 16, 3) := by decide +kernel
theorem dX3_digest_61 : decode cX3_digest 61 = .ok (.aload_n 0, 1) := by decide +kernel
theorem dX3_digest_62 : decode cX3_digest 62 = .ok (.getfield 9, 3) := by decide +kernel
theorem dX3_digest_65 : decode cX3_digest 65 = .ok (.iload_n 3, 1) := by decide +kernel
theorem dX3_digest_66 : decode cX3_digest 66 = .ok (.lconst 0, 1) := by decide +kernel
theorem dX3_digest_67 : decode cX3_digest 67 = .ok (.lastore, 1) := by decide +kernel
theorem dX3_digest_68 : decode cX3_digest 68 = .ok (.iinc 3 1, 3) := by decide +kernel
theorem dX3_digest_71 : decode cX3_digest 71 = .ok (.goto (-16), 3) := by decide +kernel
theorem dX3_digest_74 : decode cX3_digest 74 = .ok (.iconst 0, 1) := by decide +kernel
theorem dX3_digest_75 : decode cX3_digest 75 = .ok (.istore_n 3, 1) := by decide +kernel
theorem dX3_digest_76 : decode cX3_digest 76 = .ok (.iload_n 3, 1) := by decide +kernel
theorem dX3_digest_77 : decode cX3_digest 77 = .ok (.sipush 136, 3) := by decide +kernel
theorem dX3_digest_80 : decode cX3_digest 80 = .ok (.iadd, 1) := by decide +kernel
theorem dX3_digest_81 : decode cX3_digest 81 = .ok (.aload_n 1, 1) := by decide +kernel
theorem dX3_digest_82 : decode cX3_digest 82 = .ok (.getfield 26, 3) := by decide +kernel
theorem dX3_digest_85 : decode cX3_digest 85 = .ok (.if_icmp .gt 51, 3) := by decide +kernel
theorem dX3_digest_88 : decode cX3_digest 88 = .ok (.aload_n 0, 1) := by decide +kernel
theorem dX3_digest_89 : decode cX3_digest 89 = .ok (.aload_n 1, 1) := by decide +kernel
theorem dX3_digest_90 : decode cX3_digest 90 = .ok (.getfield 38, 3) := by decide +kernel
theorem dX3_digest_93 : decode cX3_digest 93 = .ok (.iload_n 3, 1) := by decide +kernel
theorem dX3_digest_94 : decode cX3_digest 94 = .ok (.invokevirtual 42, 3) := by decide +kernel
theorem dX3_digest_97 : decode cX3_digest 97 = .ok (.iconst 0, 1) := by decide +kernel
theorem dX3_digest_98 : decode cX3_digest 98 = .ok (.istore 4, 2) := by decide +kernel
theorem dX3_digest_100 : decode cX3_digest 100 = .ok (.iload 4, 2) := by decide +kernel
theorem dX3_digest_102 : decode cX3_digest 102 = .ok (.bipush 24, 2) := by decide +kernel
theorem dX3_digest_104 : decode cX3_digest 104 = .ok (.if_icmp .ge 23, 3) := by decide +kernel
theorem dX3_digest_107 : decode cX3_digest 107 = .ok (.aload_n 0, 1) := by decide +kernel
theorem dX3_digest_108 : decode cX3_digest 108 = .ok (.invokevirtual 46, 3) := by decide +kernel
theorem dX3_digest_111 : decode cX3_digest 111 = .ok (.aload_n 0, 1) := by decide +kernel
theorem dX3_digest_112 : decode cX3_digest 112 = .ok (.getstatic 49, 3) := by decide +kernel
theorem dX3_digest_115 : decode cX3_digest 115 = .ok (.iload 4, 2) := by decide +kernel
theorem dX3_digest_117 : decode cX3_digest 117 = .ok (.laload, 1) := by decide +kernel
theorem dX3_digest_118 : decode cX3_digest 118 = .ok (.invokevirtual 52, 3) := by decide +kernel
theorem dX3_digest_121 : decode cX3_digest 121 = .ok (.iinc 4 1, 3) := by decide +kernel
theorem dX3_digest_124 : decode cX3_digest 124 = .ok (.goto (-24), 3) := by decide +kernel
theorem dX3_digest_127 : decode cX3_digest 127 = .ok (.iinc 3 136, 6) := by decide +kernel
theorem dX3_digest_133 : decode cX3_digest 133 = .ok (.goto (-57), 3) := by decide +kernel
theorem dX3_digest_136 : decode cX3_digest 136 = .ok (.aload_n 2, 1) := by decide +kernel
theorem dX3_digest_137 : decode cX3_digest 137 = .ok (.invokevirtual 56, 3) := by decide +kernel
theorem dX3_digest_140 : decode cX3_digest 140 = .ok (.iconst 0, 1) := by decide +kernel
theorem dX3_digest_141 : decode cX3_digest 141 = .ok (.istore_n 3, 1) := by decide +kernel
theorem dX3_digest_142 : decode cX3_digest 142 = .ok (.iload_n 3, 1) := by decide +kernel
theorem dX3_digest_143 : decode cX3_digest 143 = .ok (.bipush 32, 2) := by decide +kernel
theorem dX3_digest_145 : decode cX3_digest 145 = .ok (.if_icmp .ge 31, 3) := by decide +kernel
theorem dX3_digest_148 : decode cX3_digest 148 = .ok (.aload_n 2, 1) := by decide +kernel
theorem dX3_digest_149 : decode cX3_digest 149 = .ok (.aload_n 0, 1) := by decide +kernel
theorem dX3_digest_150 : decode cX3_digest 150 = .ok (.getfield 9, 3) := by decide +kernel
theorem dX3_digest_153 : decode cX3_digest 153 = .ok (.iload_n 3, 1) := by decide +kernel
theorem dX3_digest_154 : decode cX3_digest 154 = .ok (.bipush 8, 2) := by decide +kernel
theorem dX3_digest_156 : decode cX3_digest 156 = .ok (.idiv, 1) := by decide +kernel
theorem dX3_digest_157 : decode cX3_digest 157 = .ok (.laload, 1) := by decide +kernel
theorem dX3_digest_158 : decode cX3_digest 158 = .ok (.bipush 8, 2) := by decide +kernel
theorem dX3_digest_160 : decode cX3_digest 160 = .ok (.iload_n 3, 1) := by decide +kernel
theorem dX3_digest_161 : decode cX3_digest 161 = .ok (.bipush 8, 2) := by decide +kernel
theorem dX3_digest_163 : decode cX3_digest 163 = .ok (.irem, 1) := by decide +kernel
theorem dX3_digest_164 : decode cX3_digest 164 = .ok (.imul, 1) := by decide +kernel
theorem dX3_digest_165 : decode cX3_digest 165 = .ok (.lushr, 1) := by decide +kernel
theorem dX3_digest_166 : decode cX3_digest 166 = .ok (.iconst 1, 1) := by decide +kernel
theorem dX3_digest_167 : decode cX3_digest 167 = .ok (.invokevirtual 20, 3) := by decide +kernel
theorem dX3_digest_170 : decode cX3_digest 170 = .ok (.iinc 3 1, 3) := by decide +kernel
theorem dX3_digest_173 : decode cX3_digest 173 = .ok (.goto (-31), 3) := by decide +kernel
theorem dX3_digest_176 : decode cX3_digest 176 = .ok (.return_, 1) := by decide +kernel
set_option maxHeartbeats 1000000 in
set_option maxRecDepth 100000 in
/-- HashOne.absorb -/
theorem c_absorb (l : Launch) (g : jG) (z : Nat) (aa : Nat) (ba : Nat) (ca : Nat) (cc0 : Nat) (A0 : Nat → Int64) (f : Nat → Int32) (t : Nat) (ht : t + 136 ≤ cc0) (hb : cc0 < 2 ^ 31) : jC l g yX3_absorb wsX3_absorb ({ frames := 0, cells := 0, slots := 0, locals := 0 } : Room) [.ref z, .ref ca, .int (nI t)] [oB z 3 [.ref aa, .ref ba], lA g aa 25 A0, bA g ca cc0 f] (fun u : (Nat → Int64) => none) (fun u : (Nat → Int64) => u = absr f t A0 136) (fun u : (Nat → Int64) => [oB z 3 [.ref aa, .ref ba], lA g aa 25 u, bA g ca cc0 f]) := by
  refine jC.of (cc := cX3_absorb) (own := RX3) (maxL := 4) (ret := none) (by decide +kernel) rfl rfl (Nat.le_of_ble_eq_true rfl) (fun u hu => rfl) ?_
  intro p e s m below meth c A Q hX hret
  have in3 : ∀ w ∈ wsX30, w ∈ wsX3_absorb := (fun w h => List.mem_cons_of_mem _ (List.mem_append_right _ h))
  refine j_iconst hX (0) dX3_absorb_0 (by decide) ?_
  refine j_st [.int (nI 0)] rfl ?_
  refine j_istore_n hX 3 [(3, .int (nI 0)), (0, .ref z), (1, .ref ca), (2, .int (nI t))] dX3_absorb_1 rfl (by decide) rfl ?_
  have lp_1 : ∀ (n_2 : Nat) (i : Nat) (G : Nat → Int64), (136 - i < n_2) → (i ≤ 136) → (G = absr f t A0 i) → J p l e ({ frames := 0, cells := 0, slots := 0, locals := 0 } : Room) s m ([.ref z, .ref ca, .int (nI t)] : List Value).toArray below meth c g A 4 Q 0 0 [oB z 3 [.ref aa, .ref ba], lA g aa 25 G, bA g ca cc0 f] [(0, .ref z), (1, .ref ca), (2, .int (nI t)), (3, .int (nI i))] 2 [] := by
    intro n_2
    induction n_2 with
    | zero => intro i G hm; exact absurd hm (Nat.not_lt_zero _)
    | succ n_2 ih_3 =>
      intro i G hm hi hG
      refine j_iload_n hX 3 dX3_absorb_2 rfl ?_
      refine j_sipush hX (136) dX3_absorb_3 (by decide) ?_
      refine j_icmp_geN hX i 136 45 dX3_absorb_6 (by decide) (by omega) (by omega) (fun b_6 => ?_) (fun b_6 => ?_)
      · skip
        exact hret G (by rw [hG, show i = 136 by omega]) 45 _ .return_ dX3_absorb_45 rfl
      · skip
        refine j_aload_n hX 0 dX3_absorb_9 rfl ?_
        refine j_pc 10 rfl ?_
        refine j_get hX in3 3 0 0 (v := .ref aa) rfl rfl (by decide) (List.mem_of_getElem? (i := 1) rfl) rfl rfl dX3_absorb_10 ?_
        refine j_iload_n hX 3 dX3_absorb_13 rfl ?_
        refine j_bipush hX (8) dX3_absorb_14 (by decide) ?_
        refine j_idivN hX i 8 (by omega) (by omega) (by omega) dX3_absorb_16 ?_
        refine j_dup2 hX dX3_absorb_17 rfl rfl ?_
        refine j_laldN hX 1 (i / 8) rfl (by omega) (by omega) dX3_absorb_18 ?_
        refine j_aload_n hX 1 dX3_absorb_19 rfl ?_
        refine j_iload_n hX 2 dX3_absorb_20 rfl ?_
        refine j_pc 21 rfl ?_
        refine j_iload_n hX 3 dX3_absorb_21 rfl ?_
        refine j_iaddN hX t i dX3_absorb_22 ?_
        refine j_baldN hX 2 (t + i) rfl (by omega) (by omega) dX3_absorb_23 ?_
        refine j_i2l hX dX3_absorb_24 ?_
        refine j_ldc2 hX dX3_absorb_25 (List.mem_of_getElem? (i := 2) rfl) ?_
        refine j_land hX dX3_absorb_28 ?_
        refine j_bipush hX (8) dX3_absorb_29 (by decide) ?_
        refine j_iload_n hX 3 dX3_absorb_31 rfl ?_
        refine j_pc 32 rfl ?_
        refine j_bipush hX (8) dX3_absorb_32 (by decide) ?_
        refine j_iremN hX i 8 (by omega) (by omega) (by omega) dX3_absorb_34 ?_
        refine j_imulN hX 8 (i % 8) dX3_absorb_35 ?_
        refine j_lshl hX dX3_absorb_36 ?_
        refine j_lxor hX dX3_absorb_37 ?_
        refine j_lastN hX 1 (i / 8) rfl (by omega) (by omega) [oB z 3 [.ref aa, .ref ba], lA g aa 25 (vp_updL G (i / 8) ((G (i / 8)) ^^^ (lshl (((f (t + i)).toInt64) &&& (255 : Int64)) (nI (8 * (i % 8)))))), bA g ca cc0 f] rfl dX3_absorb_38 ?_
        refine j_iincN hX i (i + 1) [(3, .int (nI (i + 1))), (0, .ref z), (1, .ref ca), (2, .int (nI t))] 3 dX3_absorb_39 rfl (nI_1 _) (by decide) rfl ?_
        refine j_goto hX 2 dX3_absorb_42 (by decide) ?_
        refine j_perm [(0, .ref z), (1, .ref ca), (2, .int (nI t)), (3, .int (nI (i + 1)))] [1, 2, 3, 0] rfl ?_
        exact ih_3 (i + 1) (vp_updL G (i / 8) ((G (i / 8)) ^^^ (lshl (((f (t + i)).toInt64) &&& (255 : Int64)) (nI (8 * (i % 8)))))) (by omega) (by omega) (by rw [hG]; rfl)
  refine j_perm [(0, .ref z), (1, .ref ca), (2, .int (nI t)), (3, .int (nI 0))] [1, 2, 3, 0] rfl ?_
  exact lp_1 _ 0 A0 (Nat.lt_succ_self _) (by omega) rfl

set_option maxHeartbeats 1000000 in
set_option maxRecDepth 100000 in
/-- HashOne.mixColumns -/
theorem c_mixColumns (l : Launch) (g : jG) (z : Nat) (aa : Nat) (ba : Nat) (A0 : Nat → Int64)  : jC l g yX3_mixColumns wsX3_mixColumns ({ frames := 0, cells := 0, slots := 0, locals := 0 } : Room) [.ref z] [oB z 3 [.ref aa, .ref ba], lA g aa 25 A0] (fun u : (Nat → Int64) => none) (fun u : (Nat → Int64) => eq25 u (kT A0)) (fun u : (Nat → Int64) => [oB z 3 [.ref aa, .ref ba], lA g aa 25 u]) := by
  refine jC.of (cc := cX3_mixColumns) (own := RX3) (maxL := 22) (ret := none) (by decide +kernel) rfl rfl (Nat.le_of_ble_eq_true rfl) (fun u hu => rfl) ?_
  intro p e s m below meth c A Q hX hret
  have in3 : ∀ w ∈ wsX30, w ∈ wsX3_mixColumns := (fun w h => List.mem_cons_of_mem _ (List.mem_append_right _ h))
  refine j_aload_n hX 0 dX3_mixColumns_0 rfl ?_
  refine j_get hX in3 3 0 0 (v := .ref aa) rfl rfl (by decide) (List.mem_of_getElem? (i := 1) rfl) rfl rfl dX3_mixColumns_1 ?_
  refine j_iconst hX (0) dX3_mixColumns_4 (by decide) ?_
  refine j_laldN hX 1 0 rfl (by omega) (by omega) dX3_mixColumns_5 ?_
  refine j_aload_n hX 0 dX3_mixColumns_6 rfl ?_
  refine j_get hX in3 3 0 0 (v := .ref aa) rfl rfl (by decide) (List.mem_of_getElem? (i := 1) rfl) rfl rfl dX3_mixColumns_7 ?_
  refine j_iconst hX (5) dX3_mixColumns_10 (by decide) ?_
  refine j_pc 11 rfl ?_
  refine j_laldN hX 1 5 rfl (by omega) (by omega) dX3_mixColumns_11 ?_
  refine j_lxor hX dX3_mixColumns_12 ?_
  refine j_aload_n hX 0 dX3_mixColumns_13 rfl ?_
  refine j_get hX in3 3 0 0 (v := .ref aa) rfl rfl (by decide) (List.mem_of_getElem? (i := 1) rfl) rfl rfl dX3_mixColumns_14 ?_
  refine j_bipush hX (10) dX3_mixColumns_17 (by decide) ?_
  refine j_laldN hX 1 10 rfl (by omega) (by omega) dX3_mixColumns_19 ?_
  refine j_lxor hX dX3_mixColumns_20 ?_
  refine j_aload_n hX 0 dX3_mixColumns_21 rfl ?_
  refine j_pc 22 rfl ?_
  refine j_get hX in3 3 0 0 (v := .ref aa) rfl rfl (by decide) (List.mem_of_getElem? (i := 1) rfl) rfl rfl dX3_mixColumns_22 ?_
  refine j_bipush hX (15) dX3_mixColumns_25 (by decide) ?_
  refine j_laldN hX 1 15 rfl (by omega) (by omega) dX3_mixColumns_27 ?_
  refine j_lxor hX dX3_mixColumns_28 ?_
  refine j_aload_n hX 0 dX3_mixColumns_29 rfl ?_
  refine j_get hX in3 3 0 0 (v := .ref aa) rfl rfl (by decide) (List.mem_of_getElem? (i := 1) rfl) rfl rfl dX3_mixColumns_30 ?_
  refine j_bipush hX (20) dX3_mixColumns_33 (by decide) ?_
  refine j_laldN hX 1 20 rfl (by omega) (by omega) dX3_mixColumns_35 ?_
  refine j_pc 36 rfl ?_
  refine j_lxor hX dX3_mixColumns_36 ?_
  refine j_topeql _ (kC A0 0) rfl ?_
  refine j_lstore_n hX 1 [(1, .long (kC A0 0)), (0, .ref z)] dX3_mixColumns_37 rfl (by decide) rfl ?_
  refine j_aload_n hX 1 dX3_mixColumns_38 rfl ?_
  refine j_get hX in3 3 0 0 (v := .ref aa) rfl rfl (by decide) (List.mem_of_getElem? (i := 1) rfl) rfl rfl dX3_mixColumns_39 ?_
  refine j_iconst hX (1) dX3_mixColumns_42 (by decide) ?_
  refine j_laldN hX 1 1 rfl (by omega) (by omega) dX3_mixColumns_43 ?_
  refine j_aload_n hX 1 dX3_mixColumns_44 rfl ?_
  refine j_get hX in3 3 0 0 (v := .ref aa) rfl rfl (by decide) (List.mem_of_getElem? (i := 1) rfl) rfl rfl dX3_mixColumns_45 ?_
  refine j_pc 48 rfl ?_
  refine j_bipush hX (6) dX3_mixColumns_48 (by decide) ?_
  refine j_laldN hX 1 6 rfl (by omega) (by omega) dX3_mixColumns_50 ?_
  refine j_lxor hX dX3_mixColumns_51 ?_
  refine j_aload_n hX 1 dX3_mixColumns_52 rfl ?_
  refine j_get hX in3 3 0 0 (v := .ref aa) rfl rfl (by decide) (List.mem_of_getElem? (i := 1) rfl) rfl rfl dX3_mixColumns_53 ?_
  refine j_bipush hX (11) dX3_mixColumns_56 (by decide) ?_
  refine j_laldN hX 1 11 rfl (by omega) (by omega) dX3_mixColumns_58 ?_
  refine j_lxor hX dX3_mixColumns_59 ?_
  refine j_pc 60 rfl ?_
  refine j_aload_n hX 1 dX3_mixColumns_60 rfl ?_
  refine j_get hX in3 3 0 0 (v := .ref aa) rfl rfl (by decide) (List.mem_of_getElem? (i := 1) rfl) rfl rfl dX3_mixColumns_61 ?_
  refine j_bipush hX (16) dX3_mixColumns_64 (by decide) ?_
  refine j_laldN hX 1 16 rfl (by omega) (by omega) dX3_mixColumns_66 ?_
  refine j_lxor hX dX3_mixColumns_67 ?_
  refine j_aload_n hX 1 dX3_mixColumns_68 rfl ?_
  refine j_get hX in3 3 0 0 (v := .ref aa) rfl rfl (by decide) (List.mem_of_getElem? (i := 1) rfl) rfl rfl dX3_mixColumns_69 ?_
  refine j_bipush hX (21) dX3_mixColumns_72 (by decide) ?_
  refine j_pc 74 rfl ?_
  refine j_laldN hX 1 21 rfl (by omega) (by omega) dX3_mixColumns_74 ?_
  refine j_lxor hX dX3_mixColumns_75 ?_
  refine j_topeql _ (kC A0 1) rfl ?_
  refine j_lstore_n hX 3 [(3, .long (kC A0 1)), (1, .long (kC A0 0)), (0, .ref z)] dX3_mixColumns_76 rfl (by decide) rfl ?_
  refine j_aload_n hX 2 dX3_mixColumns_77 rfl ?_
  refine j_get hX in3 3 0 0 (v := .ref aa) rfl rfl (by decide) (List.mem_of_getElem? (i := 1) rfl) rfl rfl dX3_mixColumns_78 ?_
  refine j_iconst hX (2) dX3_mixColumns_81 (by decide) ?_
  refine j_laldN hX 1 2 rfl (by omega) (by omega) dX3_mixColumns_82 ?_
  refine j_aload_n hX 2 dX3_mixColumns_83 rfl ?_
  refine j_pc 84 rfl ?_
  refine j_get hX in3 3 0 0 (v := .ref aa) rfl rfl (by decide) (List.mem_of_getElem? (i := 1) rfl) rfl rfl dX3_mixColumns_84 ?_
  refine j_bipush hX (7) dX3_mixColumns_87 (by decide) ?_
  refine j_laldN hX 1 7 rfl (by omega) (by omega) dX3_mixColumns_89 ?_
  refine j_lxor hX dX3_mixColumns_90 ?_
  refine j_aload_n hX 2 dX3_mixColumns_91 rfl ?_
  refine j_get hX in3 3 0 0 (v := .ref aa) rfl rfl (by decide) (List.mem_of_getElem? (i := 1) rfl) rfl rfl dX3_mixColumns_92 ?_
  refine j_bipush hX (12) dX3_mixColumns_95 (by decide) ?_
  refine j_laldN hX 1 12 rfl (by omega) (by omega) dX3_mixColumns_97 ?_
  refine j_pc 98 rfl ?_
  refine j_lxor hX dX3_mixColumns_98 ?_
  refine j_aload_n hX 2 dX3_mixColumns_99 rfl ?_
  refine j_get hX in3 3 0 0 (v := .ref aa) rfl rfl (by decide) (List.mem_of_getElem? (i := 1) rfl) rfl rfl dX3_mixColumns_100 ?_
  refine j_bipush hX (17) dX3_mixColumns_103 (by decide) ?_
  refine j_laldN hX 1 17 rfl (by omega) (by omega) dX3_mixColumns_105 ?_
  refine j_lxor hX dX3_mixColumns_106 ?_
  refine j_aload_n hX 2 dX3_mixColumns_107 rfl ?_
  refine j_get hX in3 3 0 0 (v := .ref aa) rfl rfl (by decide) (List.mem_of_getElem? (i := 1) rfl) rfl rfl dX3_mixColumns_108 ?_
  refine j_pc 111 rfl ?_
  refine j_bipush hX (22) dX3_mixColumns_111 (by decide) ?_
  refine j_laldN hX 1 22 rfl (by omega) (by omega) dX3_mixColumns_113 ?_
  refine j_lxor hX dX3_mixColumns_114 ?_
  refine j_topeql _ (kC A0 2) rfl ?_
  refine j_lstore hX [(5, .long (kC A0 2)), (3, .long (kC A0 1)), (1, .long (kC A0 0)), (0, .ref z)] dX3_mixColumns_115 (by decide) rfl ?_
  refine j_aload_n hX 3 dX3_mixColumns_117 rfl ?_
  refine j_get hX in3 3 0 0 (v := .ref aa) rfl rfl (by decide) (List.mem_of_getElem? (i := 1) rfl) rfl rfl dX3_mixColumns_118 ?_
  refine j_iconst hX (3) dX3_mixColumns_121 (by decide) ?_
  refine j_laldN hX 1 3 rfl (by omega) (by omega) dX3_mixColumns_122 ?_
  refine j_pc 123 rfl ?_
  refine j_aload_n hX 3 dX3_mixColumns_123 rfl ?_
  refine j_get hX in3 3 0 0 (v := .ref aa) rfl rfl (by decide) (List.mem_of_getElem? (i := 1) rfl) rfl rfl dX3_mixColumns_124 ?_
  refine j_bipush hX (8) dX3_mixColumns_127 (by decide) ?_
  refine j_laldN hX 1 8 rfl (by omega) (by omega) dX3_mixColumns_129 ?_
  refine j_lxor hX dX3_mixColumns_130 ?_
  refine j_aload_n hX 3 dX3_mixColumns_131 rfl ?_
  refine j_get hX in3 3 0 0 (v := .ref aa) rfl rfl (by decide) (List.mem_of_getElem? (i := 1) rfl) rfl rfl dX3_mixColumns_132 ?_
  refine j_bipush hX (13) dX3_mixColumns_135 (by decide) ?_
  refine j_pc 137 rfl ?_
  refine j_laldN hX 1 13 rfl (by omega) (by omega) dX3_mixColumns_137 ?_
  refine j_lxor hX dX3_mixColumns_138 ?_
  refine j_aload_n hX 3 dX3_mixColumns_139 rfl ?_
  refine j_get hX in3 3 0 0 (v := .ref aa) rfl rfl (by decide) (List.mem_of_getElem? (i := 1) rfl) rfl rfl dX3_mixColumns_140 ?_
  refine j_bipush hX (18) dX3_mixColumns_143 (by decide) ?_
  refine j_laldN hX 1 18 rfl (by omega) (by omega) dX3_mixColumns_145 ?_
  refine j_lxor hX dX3_mixColumns_146 ?_
  refine j_aload_n hX 3 dX3_mixColumns_147 rfl ?_
  refine j_pc 148 rfl ?_
  refine j_get hX in3 3 0 0 (v := .ref aa) rfl rfl (by decide) (List.mem_of_getElem? (i := 1) rfl) rfl rfl dX3_mixColumns_148 ?_
  refine j_bipush hX (23) dX3_mixColumns_151 (by decide) ?_
  refine j_laldN hX 1 23 rfl (by omega) (by omega) dX3_mixColumns_153 ?_
  refine j_lxor hX dX3_mixColumns_154 ?_
  refine j_topeql _ (kC A0 3) rfl ?_
  refine j_lstore hX [(7, .long (kC A0 3)), (5, .long (kC A0 2)), (3, .long (kC A0 1)), (1, .long (kC A0 0)), (0, .ref z)] dX3_mixColumns_155 (by decide) rfl ?_
  refine j_aload_n hX 4 dX3_mixColumns_157 rfl ?_
  refine j_get hX in3 3 0 0 (v := .ref aa) rfl rfl (by decide) (List.mem_of_getElem? (i := 1) rfl) rfl rfl dX3_mixColumns_158 ?_
  refine j_iconst hX (4) dX3_mixColumns_161 (by decide) ?_
  refine j_pc 162 rfl ?_
  refine j_laldN hX 1 4 rfl (by omega) (by omega) dX3_mixColumns_162 ?_
  refine j_aload_n hX 4 dX3_mixColumns_163 rfl ?_
  refine j_get hX in3 3 0 0 (v := .ref aa) rfl rfl (by decide) (List.mem_of_getElem? (i := 1) rfl) rfl rfl dX3_mixColumns_164 ?_
  refine j_bipush hX (9) dX3_mixColumns_167 (by decide) ?_
  refine j_laldN hX 1 9 rfl (by omega) (by omega) dX3_mixColumns_169 ?_
  refine j_lxor hX dX3_mixColumns_170 ?_
  refine j_aload_n hX 4 dX3_mixColumns_171 rfl ?_
  refine j_get hX in3 3 0 0 (v := .ref aa) rfl rfl (by decide) (List.mem_of_getElem? (i := 1) rfl) rfl rfl dX3_mixColumns_172 ?_
  refine j_pc 175 rfl ?_
  refine j_bipush hX (14) dX3_mixColumns_175 (by decide) ?_
  refine j_laldN hX 1 14 rfl (by omega) (by omega) dX3_mixColumns_177 ?_
  refine j_lxor hX dX3_mixColumns_178 ?_
  refine j_aload_n hX 4 dX3_mixColumns_179 rfl ?_
  refine j_get hX in3 3 0 0 (v := .ref aa) rfl rfl (by decide) (List.mem_of_getElem? (i := 1) rfl) rfl rfl dX3_mixColumns_180 ?_
  refine j_bipush hX (19) dX3_mixColumns_183 (by decide) ?_
  refine j_laldN hX 1 19 rfl (by omega) (by omega) dX3_mixColumns_185 ?_
  refine j_lxor hX dX3_mixColumns_186 ?_
  refine j_pc 187 rfl ?_
  refine j_aload_n hX 4 dX3_mixColumns_187 rfl ?_
  refine j_get hX in3 3 0 0 (v := .ref aa) rfl rfl (by decide) (List.mem_of_getElem? (i := 1) rfl) rfl rfl dX3_mixColumns_188 ?_
  refine j_bipush hX (24) dX3_mixColumns_191 (by decide) ?_
  refine j_laldN hX 1 24 rfl (by omega) (by omega) dX3_mixColumns_193 ?_
  refine j_lxor hX dX3_mixColumns_194 ?_
  refine j_topeql _ (kC A0 4) rfl ?_
  refine j_lstore hX [(9, .long (kC A0 4)), (7, .long (kC A0 3)), (5, .long (kC A0 2)), (3, .long (kC A0 1)), (1, .long (kC A0 0)), (0, .ref z)] dX3_mixColumns_195 (by decide) rfl ?_
  refine j_lload hX 0 dX3_mixColumns_197 rfl ?_
  refine j_lload_n hX 3 dX3_mixColumns_199 rfl ?_
  refine j_pc 200 rfl ?_
  refine j_iconst hX (1) dX3_mixColumns_200 (by decide) ?_
  refine j_lshl hX dX3_mixColumns_201 ?_
  refine j_lload_n hX 3 dX3_mixColumns_202 rfl ?_
  refine j_bipush hX (63) dX3_mixColumns_203 (by decide) ?_
  refine j_lushr hX dX3_mixColumns_205 ?_
  refine j_lor hX dX3_mixColumns_206 ?_
  refine j_lxor hX dX3_mixColumns_207 ?_
  refine j_topeql _ (kD A0 0) rfl ?_
  refine j_lstore hX [(11, .long (kD A0 0)), (9, .long (kC A0 4)), (7, .long (kC A0 3)), (5, .long (kC A0 2)), (3, .long (kC A0 1)), (1, .long (kC A0 0)), (0, .ref z)] dX3_mixColumns_208 (by decide) rfl ?_
  refine j_pc 210 rfl ?_
  refine j_lload_n hX 5 dX3_mixColumns_210 rfl ?_
  refine j_lload hX 3 dX3_mixColumns_211 rfl ?_
  refine j_iconst hX (1) dX3_mixColumns_213 (by decide) ?_
  refine j_lshl hX dX3_mixColumns_214 ?_
  refine j_lload hX 3 dX3_mixColumns_215 rfl ?_
  refine j_bipush hX (63) dX3_mixColumns_217 (by decide) ?_
  refine j_lushr hX dX3_mixColumns_219 ?_
  refine j_lor hX dX3_mixColumns_220 ?_
  refine j_pc 221 rfl ?_
  refine j_lxor hX dX3_mixColumns_221 ?_
  refine j_topeql _ (kD A0 1) rfl ?_
  refine j_lstore hX [(13, .long (kD A0 1)), (11, .long (kD A0 0)), (9, .long (kC A0 4)), (7, .long (kC A0 3)), (5, .long (kC A0 2)), (3, .long (kC A0 1)), (1, .long (kC A0 0)), (0, .ref z)] dX3_mixColumns_222 (by decide) rfl ?_
  refine j_lload_n hX 5 dX3_mixColumns_224 rfl ?_
  refine j_lload hX 3 dX3_mixColumns_225 rfl ?_
  refine j_iconst hX (1) dX3_mixColumns_227 (by decide) ?_
  refine j_lshl hX dX3_mixColumns_228 ?_
  refine j_lload hX 3 dX3_mixColumns_229 rfl ?_
  refine j_bipush hX (63) dX3_mixColumns_231 (by decide) ?_
  refine j_pc 233 rfl ?_
  refine j_lushr hX dX3_mixColumns_233 ?_
  refine j_lor hX dX3_mixColumns_234 ?_
  refine j_lxor hX dX3_mixColumns_235 ?_
  refine j_topeql _ (kD A0 2) rfl ?_
  refine j_lstore hX [(15, .long (kD A0 2)), (13, .long (kD A0 1)), (11, .long (kD A0 0)), (9, .long (kC A0 4)), (7, .long (kC A0 3)), (5, .long (kC A0 2)), (3, .long (kC A0 1)), (1, .long (kC A0 0)), (0, .ref z)] dX3_mixColumns_236 (by decide) rfl ?_
  refine j_lload hX 5 dX3_mixColumns_238 rfl ?_
  refine j_lload hX 3 dX3_mixColumns_240 rfl ?_
  refine j_iconst hX (1) dX3_mixColumns_242 (by decide) ?_
  refine j_lshl hX dX3_mixColumns_243 ?_
  refine j_pc 244 rfl ?_
  refine j_lload hX 3 dX3_mixColumns_244 rfl ?_
  refine j_bipush hX (63) dX3_mixColumns_246 (by decide) ?_
  refine j_lushr hX dX3_mixColumns_248 ?_
  refine j_lor hX dX3_mixColumns_249 ?_
  refine j_lxor hX dX3_mixColumns_250 ?_
  refine j_topeql _ (kD A0 3) rfl ?_
  refine j_lstore hX [(17, .long (kD A0 3)), (15, .long (kD A0 2)), (13, .long (kD A0 1)), (11, .long (kD A0 0)), (9, .long (kC A0 4)), (7, .long (kC A0 3)), (5, .long (kC A0 2)), (3, .long (kC A0 1)), (1, .long (kC A0 0)), (0, .ref z)] dX3_mixColumns_251 (by decide) rfl ?_
  refine j_lload hX 5 dX3_mixColumns_253 rfl ?_
  refine j_lload_n hX 8 dX3_mixColumns_255 rfl ?_
  refine j_pc 256 rfl ?_
  refine j_iconst hX (1) dX3_mixColumns_256 (by decide) ?_
  refine j_lshl hX dX3_mixColumns_257 ?_
  refine j_lload_n hX 8 dX3_mixColumns_258 rfl ?_
  refine j_bipush hX (63) dX3_mixColumns_259 (by decide) ?_
  refine j_lushr hX dX3_mixColumns_261 ?_
  refine j_lor hX dX3_mixColumns_262 ?_
  refine j_lxor hX dX3_mixColumns_263 ?_
  refine j_topeql _ (kD A0 4) rfl ?_
  refine j_lstore hX [(19, .long (kD A0 4)), (17, .long (kD A0 3)), (15, .long (kD A0 2)), (13, .long (kD A0 1)), (11, .long (kD A0 0)), (9, .long (kC A0 4)), (7, .long (kC A0 3)), (5, .long (kC A0 2)), (3, .long (kC A0 1)), (1, .long (kC A0 0)), (0, .ref z)] dX3_mixColumns_264 (by decide) rfl ?_
  refine j_pc 266 rfl ?_
  refine j_iconst hX (0) dX3_mixColumns_266 (by decide) ?_
  refine j_st [.int (nI 0)] rfl ?_
  refine j_istore hX [(21, .int (nI 0)), (19, .long (kD A0 4)), (17, .long (kD A0 3)), (15, .long (kD A0 2)), (13, .long (kD A0 1)), (11, .long (kD A0 0)), (9, .long (kC A0 4)), (7, .long (kC A0 3)), (5, .long (kC A0 2)), (3, .long (kC A0 1)), (1, .long (kC A0 0)), (0, .ref z)] dX3_mixColumns_267 (by decide) rfl ?_
  have lp_1 : ∀ (n_2 : Nat) (y : Nat) (G : Nat → Int64), (25 - y < n_2) → (y % 5 = 0) → (y ≤ 25) → (∀ k, k < 25 → G k = if k < y then kT A0 k else A0 k) → J p l e ({ frames := 0, cells := 0, slots := 0, locals := 0 } : Room) s m ([.ref z] : List Value).toArray below meth c g A 22 Q 0 0 [oB z 3 [.ref aa, .ref ba], lA g aa 25 G] [(0, .ref z), (1, .long (kC A0 0)), (3, .long (kC A0 1)), (5, .long (kC A0 2)), (7, .long (kC A0 3)), (9, .long (kC A0 4)), (11, .long (kD A0 0)), (13, .long (kD A0 1)), (15, .long (kD A0 2)), (17, .long (kD A0 3)), (19, .long (kD A0 4)), (21, .int (nI y))] 269 [] := by
    intro n_2
    induction n_2 with
    | zero => intro y G hm; exact absurd hm (Nat.not_lt_zero _)
    | succ n_2 ih_3 =>
      intro y G hm hy5 hyl hG
      refine j_iload hX 11 dX3_mixColumns_269 rfl ?_
      refine j_bipush hX (25) dX3_mixColumns_271 (by decide) ?_
      refine j_icmp_geN hX y 25 350 dX3_mixColumns_273 (by decide) (by omega) (by omega) (fun b_273 => ?_) (fun b_273 => ?_)
      · skip
        exact hret G (fun k hk => by rw [hG k hk, if_pos (by omega)]) 350 _ .return_ dX3_mixColumns_350 rfl
      · skip
        refine j_aload_n hX 0 dX3_mixColumns_276 rfl ?_
        refine j_get hX in3 3 0 0 (v := .ref aa) rfl rfl (by decide) (List.mem_of_getElem? (i := 1) rfl) rfl rfl dX3_mixColumns_277 ?_
        refine j_pc 280 rfl ?_
        refine j_iload hX 11 dX3_mixColumns_280 rfl ?_
        refine j_dup2 hX dX3_mixColumns_282 rfl rfl ?_
        refine j_laldN hX 1 y rfl (by omega) (by omega) dX3_mixColumns_283 ?_
        refine j_topeql _ (A0 y) (by rw [hG y (by omega), if_neg (by omega)]) ?_
        refine j_lload hX 6 dX3_mixColumns_284 rfl ?_
        refine j_lxor hX dX3_mixColumns_286 ?_
        refine j_lastN hX 1 y rfl (by omega) (by omega) [oB z 3 [.ref aa, .ref ba], lA g aa 25 (vp_updL G y ((A0 y) ^^^ (kD A0 0)))] rfl dX3_mixColumns_287 ?_
        obtain ⟨A1, eA1⟩ : ∃ z, z = vp_updL G y ((A0 y) ^^^ (kD A0 0)) := ⟨_, rfl⟩
        refine j_w [oB z 3 [.ref aa, .ref ba], lA g aa 25 A1] (by rw [eA1]) ?_
        refine j_aload_n hX 0 dX3_mixColumns_288 rfl ?_
        refine j_get hX in3 3 0 0 (v := .ref aa) rfl rfl (by decide) (List.mem_of_getElem? (i := 1) rfl) rfl rfl dX3_mixColumns_289 ?_
        refine j_pc 292 rfl ?_
        refine j_iload hX 11 dX3_mixColumns_292 rfl ?_
        refine j_iconst hX (1) dX3_mixColumns_294 (by decide) ?_
        refine j_iaddN hX y 1 dX3_mixColumns_295 ?_
        refine j_dup2 hX dX3_mixColumns_296 rfl rfl ?_
        refine j_laldN hX 1 (y + 1) rfl (by omega) (by omega) dX3_mixColumns_297 ?_
        refine j_topeql _ (A0 (y + 1)) (by rw [eA1, updL_ne (by omega), hG _ (by omega), if_neg (by omega)]) ?_
        refine j_lload hX 7 dX3_mixColumns_298 rfl ?_
        refine j_lxor hX dX3_mixColumns_300 ?_
        refine j_lastN hX 1 (y + 1) rfl (by omega) (by omega) [oB z 3 [.ref aa, .ref ba], lA g aa 25 (vp_updL A1 (y + 1) ((A0 (y + 1)) ^^^ (kD A0 1)))] rfl dX3_mixColumns_301 ?_
        obtain ⟨A2, eA2⟩ : ∃ z, z = vp_updL A1 (y + 1) ((A0 (y + 1)) ^^^ (kD A0 1)) := ⟨_, rfl⟩
        refine j_w [oB z 3 [.ref aa, .ref ba], lA g aa 25 A2] (by rw [eA2]) ?_
        refine j_pc 302 rfl ?_
        refine j_aload_n hX 0 dX3_mixColumns_302 rfl ?_
        refine j_get hX in3 3 0 0 (v := .ref aa) rfl rfl (by decide) (List.mem_of_getElem? (i := 1) rfl) rfl rfl dX3_mixColumns_303 ?_
        refine j_iload hX 11 dX3_mixColumns_306 rfl ?_
        refine j_iconst hX (2) dX3_mixColumns_308 (by decide) ?_
        refine j_iaddN hX y 2 dX3_mixColumns_309 ?_
        refine j_dup2 hX dX3_mixColumns_310 rfl rfl ?_
        refine j_laldN hX 1 (y + 2) rfl (by omega) (by omega) dX3_mixColumns_311 ?_
        refine j_topeql _ (A0 (y + 2)) (by rw [eA2, updL_ne (by omega), eA1, updL_ne (by omega), hG _ (by omega), if_neg (by omega)]) ?_
        refine j_lload hX 8 dX3_mixColumns_312 rfl ?_
        refine j_pc 314 rfl ?_
        refine j_lxor hX dX3_mixColumns_314 ?_
        refine j_lastN hX 1 (y + 2) rfl (by omega) (by omega) [oB z 3 [.ref aa, .ref ba], lA g aa 25 (vp_updL A2 (y + 2) ((A0 (y + 2)) ^^^ (kD A0 2)))] rfl dX3_mixColumns_315 ?_
        obtain ⟨A3, eA3⟩ : ∃ z, z = vp_updL A2 (y + 2) ((A0 (y + 2)) ^^^ (kD A0 2)) := ⟨_, rfl⟩
        refine j_w [oB z 3 [.ref aa, .ref ba], lA g aa 25 A3] (by rw [eA3]) ?_
        refine j_aload_n hX 0 dX3_mixColumns_316 rfl ?_
        refine j_get hX in3 3 0 0 (v := .ref aa) rfl rfl (by decide) (List.mem_of_getElem? (i := 1) rfl) rfl rfl dX3_mixColumns_317 ?_
        refine j_iload hX 11 dX3_mixColumns_320 rfl ?_
        refine j_iconst hX (3) dX3_mixColumns_322 (by decide) ?_
        refine j_iaddN hX y 3 dX3_mixColumns_323 ?_
        refine j_dup2 hX dX3_mixColumns_324 rfl rfl ?_
        refine j_pc 325 rfl ?_
        refine j_laldN hX 1 (y + 3) rfl (by omega) (by omega) dX3_mixColumns_325 ?_
        refine j_topeql _ (A0 (y + 3)) (by rw [eA3, updL_ne (by omega), eA2, updL_ne (by omega), eA1, updL_ne (by omega), hG _ (by omega), if_neg (by omega)]) ?_
        refine j_lload hX 9 dX3_mixColumns_326 rfl ?_
        refine j_lxor hX dX3_mixColumns_328 ?_
        refine j_lastN hX 1 (y + 3) rfl (by omega) (by omega) [oB z 3 [.ref aa, .ref ba], lA g aa 25 (vp_updL A3 (y + 3) ((A0 (y + 3)) ^^^ (kD A0 3)))] rfl dX3_mixColumns_329 ?_
        obtain ⟨A4, eA4⟩ : ∃ z, z = vp_updL A3 (y + 3) ((A0 (y + 3)) ^^^ (kD A0 3)) := ⟨_, rfl⟩
        refine j_w [oB z 3 [.ref aa, .ref ba], lA g aa 25 A4] (by rw [eA4]) ?_
        refine j_aload_n hX 0 dX3_mixColumns_330 rfl ?_
        refine j_get hX in3 3 0 0 (v := .ref aa) rfl rfl (by decide) (List.mem_of_getElem? (i := 1) rfl) rfl rfl dX3_mixColumns_331 ?_
        refine j_iload hX 11 dX3_mixColumns_334 rfl ?_
        refine j_iconst hX (4) dX3_mixColumns_336 (by decide) ?_
        refine j_pc 337 rfl ?_
        refine j_iaddN hX y 4 dX3_mixColumns_337 ?_
        refine j_dup2 hX dX3_mixColumns_338 rfl rfl ?_
        refine j_laldN hX 1 (y + 4) rfl (by omega) (by omega) dX3_mixColumns_339 ?_
        refine j_topeql _ (A0 (y + 4)) (by rw [eA4, updL_ne (by omega), eA3, updL_ne (by omega), eA2, updL_ne (by omega), eA1, updL_ne (by omega), hG _ (by omega), if_neg (by omega)]) ?_
        refine j_lload hX 10 dX3_mixColumns_340 rfl ?_
        refine j_lxor hX dX3_mixColumns_342 ?_
        refine j_lastN hX 1 (y + 4) rfl (by omega) (by omega) [oB z 3 [.ref aa, .ref ba], lA g aa 25 (vp_updL A4 (y + 4) ((A0 (y + 4)) ^^^ (kD A0 4)))] rfl dX3_mixColumns_343 ?_
        obtain ⟨A5, eA5⟩ : ∃ z, z = vp_updL A4 (y + 4) ((A0 (y + 4)) ^^^ (kD A0 4)) := ⟨_, rfl⟩
        refine j_w [oB z 3 [.ref aa, .ref ba], lA g aa 25 A5] (by rw [eA5]) ?_
        refine j_iincN hX y (y + 5) [(21, .int (nI (y + 5))), (0, .ref z), (1, .long (kC A0 0)), (3, .long (kC A0 1)), (5, .long (kC A0 2)), (7, .long (kC A0 3)), (9, .long (kC A0 4)), (11, .long (kD A0 0)), (13, .long (kD A0 1)), (15, .long (kD A0 2)), (17, .long (kD A0 3)), (19, .long (kD A0 4))] 11 dX3_mixColumns_344 rfl (nI_add _ _) (by decide) rfl ?_
        refine j_goto hX 269 dX3_mixColumns_347 (by decide) ?_
        refine j_perm [(0, .ref z), (1, .long (kC A0 0)), (3, .long (kC A0 1)), (5, .long (kC A0 2)), (7, .long (kC A0 3)), (9, .long (kC A0 4)), (11, .long (kD A0 0)), (13, .long (kD A0 1)), (15, .long (kD A0 2)), (17, .long (kD A0 3)), (19, .long (kD A0 4)), (21, .int (nI (y + 5)))] [1, 2, 3, 4, 5, 6, 7, 8, 9, 10, 11, 0] rfl ?_
        exact ih_3 (y + 5) A5 (by omega) (by omega) (by omega) (five_step hy5 hG (by have h := five eA1 eA2 eA3 eA4 eA5; have r := mc_row A0 hy5; exact ⟨h.1.trans r.1, h.2.1.trans r.2.1, h.2.2.1.trans r.2.2.1, h.2.2.2.1.trans r.2.2.2.1, h.2.2.2.2.1.trans r.2.2.2.2, h.2.2.2.2.2⟩))
  refine j_perm [(0, .ref z), (1, .long (kC A0 0)), (3, .long (kC A0 1)), (5, .long (kC A0 2)), (7, .long (kC A0 3)), (9, .long (kC A0 4)), (11, .long (kD A0 0)), (13, .long (kD A0 1)), (15, .long (kD A0 2)), (17, .long (kD A0 3)), (19, .long (kD A0 4)), (21, .int (nI 0))] [11, 10, 9, 8, 7, 6, 5, 4, 3, 2, 1, 0] rfl ?_
  exact lp_1 _ 0 A0 (Nat.lt_succ_self _) (by omega) (by omega) (fun k _ => (if_neg (Nat.not_lt_zero k)).symm)

set_option maxHeartbeats 1000000 in
set_option maxRecDepth 100000 in
/-- HashOne.turnAndMixRows -/
theorem c_turnRows (l : Launch) (g : jG) (z : Nat) (aa : Nat) (ba : Nat) (A0 : Nat → Int64) (B0 : Nat → Int64) (wd : Int64)  : jC l g yX3_turnAndMixRows wsX3_turnAndMixRows ({ frames := 0, cells := 0, slots := 0, locals := 0 } : Room) [.ref z, .long wd] [oB z 3 [.ref aa, .ref ba], lA g aa 25 A0, lA g ba 25 B0] (fun u : (Nat → Int64) × (Nat → Int64) => none) (fun u : (Nat → Int64) × (Nat → Int64) => ∀ k, k < 25 → u.1 k = if k = 0 then kX (kB A0) 0 ^^^ wd else kX (kB A0) k) (fun u : (Nat → Int64) × (Nat → Int64) => [oB z 3 [.ref aa, .ref ba], lA g aa 25 u.1, lA g ba 25 u.2]) := by
  refine jC.of (cc := cX3_turnAndMixRows) (own := RX3) (maxL := 14) (ret := none) (by decide +kernel) rfl rfl (Nat.le_of_ble_eq_true rfl) (fun u hu => rfl) ?_
  intro p e s m below meth c A Q hX hret
  have in3 : ∀ w ∈ wsX30, w ∈ wsX3_turnAndMixRows := (fun w h => List.mem_cons_of_mem _ (List.mem_append_right _ h))
  refine j_iconst hX (0) dX3_turnAndMixRows_0 (by decide) ?_
  refine j_st [.int (nI 0)] rfl ?_
  refine j_istore_n hX 3 [(3, .int (nI 0)), (0, .ref z), (1, .long wd)] dX3_turnAndMixRows_1 rfl (by decide) rfl ?_
  have lp_1 : ∀ (n_2 : Nat) (i : Nat) (G : Nat → Int64), (25 - i < n_2) → (i ≤ 25) → (G = rhoI A0 B0 i) → J p l e ({ frames := 0, cells := 0, slots := 0, locals := 0 } : Room) s m ([.ref z, .long wd] : List Value).toArray below meth c g A 14 Q 0 0 [oB z 3 [.ref aa, .ref ba], lA g aa 25 A0, lA g ba 25 G] [(0, .ref z), (1, .long wd), (3, .int (nI i))] 2 [] := by
    intro n_2
    induction n_2 with
    | zero => intro i G hm; exact absurd hm (Nat.not_lt_zero _)
    | succ n_2 ih_3 =>
      intro i G hm hi hG
      refine j_iload_n hX 2 dX3_turnAndMixRows_2 rfl ?_
      refine j_bipush hX (25) dX3_turnAndMixRows_3 (by decide) ?_
      refine j_icmp_geN hX i 25 52 dX3_turnAndMixRows_5 (by decide) (by omega) (by omega) (fun b_5 => ?_) (fun b_5 => ?_)
      · skip
        have hB : eq25 G (kB A0) := by rw [hG, show i = 25 by omega]; exact rhoI_25 A0 B0
        refine j_iconst hX (0) dX3_turnAndMixRows_52 (by decide) ?_
        refine j_st [.int (nI 0)] rfl ?_
        refine j_istore_n hX 3 [(3, .int (nI 0)), (0, .ref z), (1, .long wd)] dX3_turnAndMixRows_53 rfl (by decide) rfl ?_
        have lp_4 : ∀ (n_5 : Nat) (y : Nat) (H2 : Nat → Int64), (25 - y < n_5) → (y % 5 = 0) → (y ≤ 25) → (∀ k, k < 25 → H2 k = if k < y then kX (kB A0) k else A0 k) → J p l e ({ frames := 0, cells := 0, slots := 0, locals := 0 } : Room) s m ([.ref z, .long wd] : List Value).toArray below meth c g A 14 Q 0 0 [oB z 3 [.ref aa, .ref ba], lA g aa 25 H2, lA g ba 25 G] [(0, .ref z), (1, .long wd), (3, .int (nI y))] 54 [] := by
          intro n_5
          induction n_5 with
          | zero => intro y H2 hm; exact absurd hm (Nat.not_lt_zero _)
          | succ n_5 ih_6 =>
            intro y H2 hm hy5 hyl hH
            refine j_pc 54 rfl ?_
            refine j_iload_n hX 2 dX3_turnAndMixRows_54 rfl ?_
            refine j_bipush hX (25) dX3_turnAndMixRows_55 (by decide) ?_
            refine j_icmp_geN hX y 25 212 dX3_turnAndMixRows_57 (by decide) (by omega) (by omega) (fun b_57 => ?_) (fun b_57 => ?_)
            · skip
              refine j_aload_n hX 0 dX3_turnAndMixRows_212 rfl ?_
              refine j_get hX in3 3 0 0 (v := .ref aa) rfl rfl (by decide) (List.mem_of_getElem? (i := 3) rfl) rfl rfl dX3_turnAndMixRows_213 ?_
              refine j_iconst hX (0) dX3_turnAndMixRows_216 (by decide) ?_
              refine j_dup2 hX dX3_turnAndMixRows_217 rfl rfl ?_
              refine j_laldN hX 1 0 rfl (by omega) (by omega) dX3_turnAndMixRows_218 ?_
              refine j_pc 219 rfl ?_
              refine j_lload_n hX 1 dX3_turnAndMixRows_219 rfl ?_
              refine j_lxor hX dX3_turnAndMixRows_220 ?_
              refine j_lastN hX 1 0 rfl (by omega) (by omega) [oB z 3 [.ref aa, .ref ba], lA g aa 25 (vp_updL H2 0 ((H2 0) ^^^ wd)), lA g ba 25 G] rfl dX3_turnAndMixRows_221 ?_
              exact hret (vp_updL H2 0 ((H2 0) ^^^ wd), G) (fun k hk => by unfold vp_updL; dsimp only; rw [hH 0 (by decide), hH k hk, if_pos (show 0 < y by omega), if_pos (show k < y by omega)]) 222 _ .return_ dX3_turnAndMixRows_222 rfl
            · skip
              refine j_aload_n hX 0 dX3_turnAndMixRows_60 rfl ?_
              refine j_get hX in3 3 0 1 (v := .ref ba) rfl rfl (by decide) (List.mem_of_getElem? (i := 1) rfl) rfl rfl dX3_turnAndMixRows_61 ?_
              refine j_iload_n hX 2 dX3_turnAndMixRows_64 rfl ?_
              refine j_laldN hX 2 y rfl (by omega) (by omega) dX3_turnAndMixRows_65 ?_
              refine j_topeql _ (kB A0 y) (hB _ (by omega)) ?_
              refine j_pc 66 rfl ?_
              refine j_lstore hX [(4, .long (kB A0 y)), (0, .ref z), (1, .long wd), (3, .int (nI y))] dX3_turnAndMixRows_66 (by decide) rfl ?_
              refine j_aload_n hX 1 dX3_turnAndMixRows_68 rfl ?_
              refine j_get hX in3 3 0 1 (v := .ref ba) rfl rfl (by decide) (List.mem_of_getElem? (i := 1) rfl) rfl rfl dX3_turnAndMixRows_69 ?_
              refine j_iload_n hX 3 dX3_turnAndMixRows_72 rfl ?_
              refine j_iconst hX (1) dX3_turnAndMixRows_73 (by decide) ?_
              refine j_iaddN hX y 1 dX3_turnAndMixRows_74 ?_
              refine j_laldN hX 2 (y + 1) rfl (by omega) (by omega) dX3_turnAndMixRows_75 ?_
              refine j_topeql _ (kB A0 (y + 1)) (hB _ (by omega)) ?_
              refine j_lstore hX [(6, .long (kB A0 (y + 1))), (4, .long (kB A0 y)), (0, .ref z), (1, .long wd), (3, .int (nI y))] dX3_turnAndMixRows_76 (by decide) rfl ?_
              refine j_pc 78 rfl ?_
              refine j_aload_n hX 2 dX3_turnAndMixRows_78 rfl ?_
              refine j_get hX in3 3 0 1 (v := .ref ba) rfl rfl (by decide) (List.mem_of_getElem? (i := 1) rfl) rfl rfl dX3_turnAndMixRows_79 ?_
              refine j_iload_n hX 4 dX3_turnAndMixRows_82 rfl ?_
              refine j_iconst hX (2) dX3_turnAndMixRows_83 (by decide) ?_
              refine j_iaddN hX y 2 dX3_turnAndMixRows_84 ?_
              refine j_laldN hX 2 (y + 2) rfl (by omega) (by omega) dX3_turnAndMixRows_85 ?_
              refine j_topeql _ (kB A0 (y + 2)) (hB _ (by omega)) ?_
              refine j_lstore hX [(8, .long (kB A0 (y + 2))), (6, .long (kB A0 (y + 1))), (4, .long (kB A0 y)), (0, .ref z), (1, .long wd), (3, .int (nI y))] dX3_turnAndMixRows_86 (by decide) rfl ?_
              refine j_aload_n hX 3 dX3_turnAndMixRows_88 rfl ?_
              refine j_pc 89 rfl ?_
              refine j_get hX in3 3 0 1 (v := .ref ba) rfl rfl (by decide) (List.mem_of_getElem? (i := 1) rfl) rfl rfl dX3_turnAndMixRows_89 ?_
              refine j_iload_n hX 5 dX3_turnAndMixRows_92 rfl ?_
              refine j_iconst hX (3) dX3_turnAndMixRows_93 (by decide) ?_
              refine j_iaddN hX y 3 dX3_turnAndMixRows_94 ?_
              refine j_laldN hX 2 (y + 3) rfl (by omega) (by omega) dX3_turnAndMixRows_95 ?_
              refine j_topeql _ (kB A0 (y + 3)) (hB _ (by omega)) ?_
              refine j_lstore hX [(10, .long (kB A0 (y + 3))), (8, .long (kB A0 (y + 2))), (6, .long (kB A0 (y + 1))), (4, .long (kB A0 y)), (0, .ref z), (1, .long wd), (3, .int (nI y))] dX3_turnAndMixRows_96 (by decide) rfl ?_
              refine j_aload_n hX 4 dX3_turnAndMixRows_98 rfl ?_
              refine j_get hX in3 3 0 1 (v := .ref ba) rfl rfl (by decide) (List.mem_of_getElem? (i := 1) rfl) rfl rfl dX3_turnAndMixRows_99 ?_
              refine j_pc 102 rfl ?_
              refine j_iload_n hX 6 dX3_turnAndMixRows_102 rfl ?_
              refine j_iconst hX (4) dX3_turnAndMixRows_103 (by decide) ?_
              refine j_iaddN hX y 4 dX3_turnAndMixRows_104 ?_
              refine j_laldN hX 2 (y + 4) rfl (by omega) (by omega) dX3_turnAndMixRows_105 ?_
              refine j_topeql _ (kB A0 (y + 4)) (hB _ (by omega)) ?_
              refine j_lstore hX [(12, .long (kB A0 (y + 4))), (10, .long (kB A0 (y + 3))), (8, .long (kB A0 (y + 2))), (6, .long (kB A0 (y + 1))), (4, .long (kB A0 y)), (0, .ref z), (1, .long wd), (3, .int (nI y))] dX3_turnAndMixRows_106 (by decide) rfl ?_
              refine j_aload_n hX 5 dX3_turnAndMixRows_108 rfl ?_
              refine j_get hX in3 3 0 0 (v := .ref aa) rfl rfl (by decide) (List.mem_of_getElem? (i := 3) rfl) rfl rfl dX3_turnAndMixRows_109 ?_
              refine j_iload_n hX 7 dX3_turnAndMixRows_112 rfl ?_
              refine j_pc 113 rfl ?_
              refine j_lload hX 4 dX3_turnAndMixRows_113 rfl ?_
              refine j_lload hX 3 dX3_turnAndMixRows_115 rfl ?_
              refine j_ldc2 hX dX3_turnAndMixRows_117 (List.mem_of_getElem? (i := 5) rfl) ?_
              refine j_lxor hX dX3_turnAndMixRows_120 ?_
              refine j_lload hX 2 dX3_turnAndMixRows_121 rfl ?_
              refine j_land hX dX3_turnAndMixRows_123 ?_
              refine j_lxor hX dX3_turnAndMixRows_124 ?_
              refine j_lastN hX 1 y rfl (by omega) (by omega) [oB z 3 [.ref aa, .ref ba], lA g aa 25 (vp_updL H2 y ((kB A0 y) ^^^ (((kB A0 (y + 1)) ^^^ (-1 : Int64)) &&& (kB A0 (y + 2))))), lA g ba 25 G] rfl dX3_turnAndMixRows_125 ?_
              obtain ⟨A1, eA1⟩ : ∃ z, z = vp_updL H2 y ((kB A0 y) ^^^ (((kB A0 (y + 1)) ^^^ (-1 : Int64)) &&& (kB A0 (y + 2)))) := ⟨_, rfl⟩
              refine j_w [oB z 3 [.ref aa, .ref ba], lA g aa 25 A1, lA g ba 25 G] (by rw [eA1]) ?_
              refine j_pc 126 rfl ?_
              refine j_aload_n hX 5 dX3_turnAndMixRows_126 rfl ?_
              refine j_get hX in3 3 0 0 (v := .ref aa) rfl rfl (by decide) (List.mem_of_getElem? (i := 3) rfl) rfl rfl dX3_turnAndMixRows_127 ?_
              refine j_iload_n hX 7 dX3_turnAndMixRows_130 rfl ?_
              refine j_iconst hX (1) dX3_turnAndMixRows_131 (by decide) ?_
              refine j_iaddN hX y 1 dX3_turnAndMixRows_132 ?_
              refine j_lload hX 3 dX3_turnAndMixRows_133 rfl ?_
              refine j_lload hX 2 dX3_turnAndMixRows_135 rfl ?_
              refine j_ldc2 hX dX3_turnAndMixRows_137 (List.mem_of_getElem? (i := 5) rfl) ?_
              refine j_pc 140 rfl ?_
              refine j_lxor hX dX3_turnAndMixRows_140 ?_
              refine j_lload hX 1 dX3_turnAndMixRows_141 rfl ?_
              refine j_land hX dX3_turnAndMixRows_143 ?_
              refine j_lxor hX dX3_turnAndMixRows_144 ?_
              refine j_lastN hX 1 (y + 1) rfl (by omega) (by omega) [oB z 3 [.ref aa, .ref ba], lA g aa 25 (vp_updL A1 (y + 1) ((kB A0 (y + 1)) ^^^ (((kB A0 (y + 2)) ^^^ (-1 : Int64)) &&& (kB A0 (y + 3))))), lA g ba 25 G] rfl dX3_turnAndMixRows_145 ?_
              obtain ⟨A2, eA2⟩ : ∃ z, z = vp_updL A1 (y + 1) ((kB A0 (y + 1)) ^^^ (((kB A0 (y + 2)) ^^^ (-1 : Int64)) &&& (kB A0 (y + 3)))) := ⟨_, rfl⟩
              refine j_w [oB z 3 [.ref aa, .ref ba], lA g aa 25 A2, lA g ba 25 G] (by rw [eA2]) ?_
              refine j_aload_n hX 5 dX3_turnAndMixRows_146 rfl ?_
              refine j_get hX in3 3 0 0 (v := .ref aa) rfl rfl (by decide) (List.mem_of_getElem? (i := 3) rfl) rfl rfl dX3_turnAndMixRows_147 ?_
              refine j_iload_n hX 7 dX3_turnAndMixRows_150 rfl ?_
              refine j_pc 151 rfl ?_
              refine j_iconst hX (2) dX3_turnAndMixRows_151 (by decide) ?_
              refine j_iaddN hX y 2 dX3_turnAndMixRows_152 ?_
              refine j_lload hX 2 dX3_turnAndMixRows_153 rfl ?_
              refine j_lload hX 1 dX3_turnAndMixRows_155 rfl ?_
              refine j_ldc2 hX dX3_turnAndMixRows_157 (List.mem_of_getElem? (i := 5) rfl) ?_
              refine j_lxor hX dX3_turnAndMixRows_160 ?_
              refine j_lload hX 0 dX3_turnAndMixRows_161 rfl ?_
              refine j_land hX dX3_turnAndMixRows_163 ?_
              refine j_pc 164 rfl ?_
              refine j_lxor hX dX3_turnAndMixRows_164 ?_
              refine j_lastN hX 1 (y + 2) rfl (by omega) (by omega) [oB z 3 [.ref aa, .ref ba], lA g aa 25 (vp_updL A2 (y + 2) ((kB A0 (y + 2)) ^^^ (((kB A0 (y + 3)) ^^^ (-1 : Int64)) &&& (kB A0 (y + 4))))), lA g ba 25 G] rfl dX3_turnAndMixRows_165 ?_
              obtain ⟨A3, eA3⟩ : ∃ z, z = vp_updL A2 (y + 2) ((kB A0 (y + 2)) ^^^ (((kB A0 (y + 3)) ^^^ (-1 : Int64)) &&& (kB A0 (y + 4)))) := ⟨_, rfl⟩
              refine j_w [oB z 3 [.ref aa, .ref ba], lA g aa 25 A3, lA g ba 25 G] (by rw [eA3]) ?_
              refine j_aload_n hX 5 dX3_turnAndMixRows_166 rfl ?_
              refine j_get hX in3 3 0 0 (v := .ref aa) rfl rfl (by decide) (List.mem_of_getElem? (i := 3) rfl) rfl rfl dX3_turnAndMixRows_167 ?_
              refine j_iload_n hX 7 dX3_turnAndMixRows_170 rfl ?_
              refine j_iconst hX (3) dX3_turnAndMixRows_171 (by decide) ?_
              refine j_iaddN hX y 3 dX3_turnAndMixRows_172 ?_
              refine j_lload hX 1 dX3_turnAndMixRows_173 rfl ?_
              refine j_pc 175 rfl ?_
              refine j_lload hX 0 dX3_turnAndMixRows_175 rfl ?_
              refine j_ldc2 hX dX3_turnAndMixRows_177 (List.mem_of_getElem? (i := 5) rfl) ?_
              refine j_lxor hX dX3_turnAndMixRows_180 ?_
              refine j_lload hX 4 dX3_turnAndMixRows_181 rfl ?_
              refine j_land hX dX3_turnAndMixRows_183 ?_
              refine j_lxor hX dX3_turnAndMixRows_184 ?_
              refine j_lastN hX 1 (y + 3) rfl (by omega) (by omega) [oB z 3 [.ref aa, .ref ba], lA g aa 25 (vp_updL A3 (y + 3) ((kB A0 (y + 3)) ^^^ (((kB A0 (y + 4)) ^^^ (-1 : Int64)) &&& (kB A0 y)))), lA g ba 25 G] rfl dX3_turnAndMixRows_185 ?_
              obtain ⟨A4, eA4⟩ : ∃ z, z = vp_updL A3 (y + 3) ((kB A0 (y + 3)) ^^^ (((kB A0 (y + 4)) ^^^ (-1 : Int64)) &&& (kB A0 y))) := ⟨_, rfl⟩
              refine j_w [oB z 3 [.ref aa, .ref ba], lA g aa 25 A4, lA g ba 25 G] (by rw [eA4]) ?_
              refine j_aload_n hX 5 dX3_turnAndMixRows_186 rfl ?_
              refine j_pc 187 rfl ?_
              refine j_get hX in3 3 0 0 (v := .ref aa) rfl rfl (by decide) (List.mem_of_getElem? (i := 3) rfl) rfl rfl dX3_turnAndMixRows_187 ?_
              refine j_iload_n hX 7 dX3_turnAndMixRows_190 rfl ?_
              refine j_iconst hX (4) dX3_turnAndMixRows_191 (by decide) ?_
              refine j_iaddN hX y 4 dX3_turnAndMixRows_192 ?_
              refine j_lload hX 0 dX3_turnAndMixRows_193 rfl ?_
              refine j_lload hX 4 dX3_turnAndMixRows_195 rfl ?_
              refine j_ldc2 hX dX3_turnAndMixRows_197 (List.mem_of_getElem? (i := 5) rfl) ?_
              refine j_lxor hX dX3_turnAndMixRows_200 ?_
              refine j_pc 201 rfl ?_
              refine j_lload hX 3 dX3_turnAndMixRows_201 rfl ?_
              refine j_land hX dX3_turnAndMixRows_203 ?_
              refine j_lxor hX dX3_turnAndMixRows_204 ?_
              refine j_lastN hX 1 (y + 4) rfl (by omega) (by omega) [oB z 3 [.ref aa, .ref ba], lA g aa 25 (vp_updL A4 (y + 4) ((kB A0 (y + 4)) ^^^ (((kB A0 y) ^^^ (-1 : Int64)) &&& (kB A0 (y + 1))))), lA g ba 25 G] rfl dX3_turnAndMixRows_205 ?_
              obtain ⟨A5, eA5⟩ : ∃ z, z = vp_updL A4 (y + 4) ((kB A0 (y + 4)) ^^^ (((kB A0 y) ^^^ (-1 : Int64)) &&& (kB A0 (y + 1)))) := ⟨_, rfl⟩
              refine j_w [oB z 3 [.ref aa, .ref ba], lA g aa 25 A5, lA g ba 25 G] (by rw [eA5]) ?_
              refine j_iincN hX y (y + 5) [(3, .int (nI (y + 5))), (12, .long (kB A0 (y + 4))), (10, .long (kB A0 (y + 3))), (8, .long (kB A0 (y + 2))), (6, .long (kB A0 (y + 1))), (4, .long (kB A0 y)), (0, .ref z), (1, .long wd)] 7 dX3_turnAndMixRows_206 rfl (nI_add _ _) (by decide) rfl ?_
              refine j_goto hX 54 dX3_turnAndMixRows_209 (by decide) ?_
              refine j_perm [(0, .ref z), (1, .long wd), (3, .int (nI (y + 5)))] [6, 7, 0] rfl ?_
              exact ih_6 (y + 5) A5 (by omega) (by omega) (by omega) (five_step hy5 hH (by have h := five eA1 eA2 eA3 eA4 eA5; have r := kX_row (kB A0) hy5; exact ⟨h.1.trans r.1, h.2.1.trans r.2.1, h.2.2.1.trans r.2.2.1, h.2.2.2.1.trans r.2.2.2.1, h.2.2.2.2.1.trans r.2.2.2.2, h.2.2.2.2.2⟩))
        refine j_perm [(0, .ref z), (1, .long wd), (3, .int (nI 0))] [1, 2, 0] rfl ?_
        exact lp_4 _ 0 A0 (Nat.lt_succ_self _) (by omega) (by omega) (fun k _ => (if_neg (Nat.not_lt_zero k)).symm)
      · skip
        refine j_aload_n hX 0 dX3_turnAndMixRows_8 rfl ?_
        refine j_get hX in3 3 0 1 (v := .ref ba) rfl rfl (by decide) (List.mem_of_getElem? (i := 1) rfl) rfl rfl dX3_turnAndMixRows_9 ?_
        refine j_pc 12 rfl ?_
        refine j_gets hX hX.2.2.2.2.2.1 (List.mem_of_getElem? (i := 2) rfl) rfl dX3_turnAndMixRows_12 (fun t_7 ht_7 => ?_)
        refine j_iload_n hX 2 dX3_turnAndMixRows_15 rfl ?_
        refine j_tiN hX i (.int (s_targets.getD i 0)) ht_7 (by omega) (by decide) rfl dX3_turnAndMixRows_16 ?_
        refine j_topeq _ (nI (kTgt i)) (tgt_nI i (by omega)) ?_
        refine j_aload_n hX 0 dX3_turnAndMixRows_17 rfl ?_
        refine j_get hX in3 3 0 0 (v := .ref aa) rfl rfl (by decide) (List.mem_of_getElem? (i := 3) rfl) rfl rfl dX3_turnAndMixRows_18 ?_
        refine j_iload_n hX 2 dX3_turnAndMixRows_21 rfl ?_
        refine j_laldN hX 1 i rfl (by omega) (by omega) dX3_turnAndMixRows_22 ?_
        refine j_gets hX hX.2.2.2.2.2.2.1 (List.mem_of_getElem? (i := 4) rfl) rfl dX3_turnAndMixRows_23 (fun t_8 ht_8 => ?_)
        refine j_pc 26 rfl ?_
        refine j_iload_n hX 2 dX3_turnAndMixRows_26 rfl ?_
        refine j_tiN hX i (.int (s_turns.getD i 0)) ht_8 (by omega) (by decide) rfl dX3_turnAndMixRows_27 ?_
        refine j_lshl hX dX3_turnAndMixRows_28 ?_
        refine j_aload_n hX 0 dX3_turnAndMixRows_29 rfl ?_
        refine j_get hX in3 3 0 0 (v := .ref aa) rfl rfl (by decide) (List.mem_of_getElem? (i := 3) rfl) rfl rfl dX3_turnAndMixRows_30 ?_
        refine j_iload_n hX 2 dX3_turnAndMixRows_33 rfl ?_
        refine j_laldN hX 1 i rfl (by omega) (by omega) dX3_turnAndMixRows_34 ?_
        refine j_bipush hX (64) dX3_turnAndMixRows_35 (by decide) ?_
        refine j_pc 37 rfl ?_
        refine j_gets hX hX.2.2.2.2.2.2.1 (List.mem_of_getElem? (i := 4) rfl) rfl dX3_turnAndMixRows_37 (fun t_9 ht_9 => ?_)
        refine j_iload_n hX 2 dX3_turnAndMixRows_40 rfl ?_
        refine j_tiN hX i (.int (s_turns.getD i 0)) ht_9 (by omega) (by decide) rfl dX3_turnAndMixRows_41 ?_
        refine j_isub hX dX3_turnAndMixRows_42 ?_
        refine j_lushr hX dX3_turnAndMixRows_43 ?_
        refine j_lor hX dX3_turnAndMixRows_44 ?_
        refine j_topeql _ (rlc (A0 i) (s_turns.getD i 0)) rfl ?_
        refine j_lastN hX 2 (kTgt i) rfl (kTgt_lt i (by omega)) (by omega) [oB z 3 [.ref aa, .ref ba], lA g aa 25 A0, lA g ba 25 (vp_updL G (kTgt i) (rlc (A0 i) (s_turns.getD i 0)))] rfl dX3_turnAndMixRows_45 ?_
        refine j_iincN hX i (i + 1) [(3, .int (nI (i + 1))), (0, .ref z), (1, .long wd)] 2 dX3_turnAndMixRows_46 rfl (nI_1 _) (by decide) rfl ?_
        refine j_pc 49 rfl ?_
        refine j_goto hX 2 dX3_turnAndMixRows_49 (by decide) ?_
        refine j_perm [(0, .ref z), (1, .long wd), (3, .int (nI (i + 1)))] [1, 2, 0] rfl ?_
        exact ih_3 (i + 1) (vp_updL G (kTgt i) (rlc (A0 i) (s_turns.getD i 0))) (by omega) (by omega) (by rw [hG]; rfl)
  refine j_perm [(0, .ref z), (1, .long wd), (3, .int (nI 0))] [1, 2, 0] rfl ?_
  exact lp_1 _ 0 B0 (Nat.lt_succ_self _) (by omega) rfl

set_option maxHeartbeats 1000000 in
set_option maxRecDepth 100000 in
/-- HashOne.digest -/
theorem c_digest1 (l : Launch) (g : jG) (z : Nat) (aa : Nat) (ba : Nat) (A0 : Nat → Int64) (B0 : Nat → Int64) (ri : Nat) (ria : Nat) (n : Nat) (capi : Nat) (fi : Nat → Int32) (ro : Nat) (roa : Nat) (no : Nat) (fo : Nat → Int32) (hn : n + 136 ≤ capi) (hc : capi < 2 ^ 30) (hno : no ≤ 32) : jC l g yX3_digest wsX3_digest ({ frames := 1, cells := 0, slots := 0, locals := 41 } : Room) [.ref z, .ref ri, .ref ro] [oB z 3 [.ref aa, .ref ba], lA g aa 25 A0, lA g ba 25 B0, oB ri 7 [.ref ria, .int (nI n)], bA g ria capi fi, oB ro 7 [.ref roa, .int (nI no)], bA g roa 32 fo] (fun u : (Nat → Int64) × (Nat → Int64) × Nat × (Nat → Int32) × (Nat → Int32) => none) (fun u : (Nat → Int64) × (Nat → Int64) × Nat × (Nat → Int32) × (Nat → Int32) => u.2.2.1 ≤ capi ∧ u.2.2.2.2 = putL fo 0 (HASH1 (slice fi 0 n))) (fun u : (Nat → Int64) × (Nat → Int64) × Nat × (Nat → Int32) × (Nat → Int32) => [oB z 3 [.ref aa, .ref ba], lA g aa 25 u.1, lA g ba 25 u.2.1, oB ri 7 [.ref ria, .int (nI u.2.2.1)], bA g ria capi u.2.2.2.1, oB ro 7 [.ref roa, .int (nI 32)], bA g roa 32 u.2.2.2.2]) := by
  refine jC.of (cc := cX3_digest) (own := RX3) (maxL := 5) (ret := none) (by decide +kernel) rfl rfl (Nat.le_of_ble_eq_true rfl) (fun u hu => rfl) ?_
  intro p e s m below meth c A Q hX hret
  have in3 : ∀ w ∈ wsX30, w ∈ wsX3_digest := (fun w h => List.mem_cons_of_mem _ (List.mem_append_right _ h))
  have in7 : ∀ w ∈ wsX70, w ∈ wsX3_digest := (fun w h => List.mem_cons_of_mem _ (List.mem_append_left _ (List.mem_append_right _ h)))
  refine j_aload_n hX 1 dX3_digest_0 rfl ?_
  refine j_ldc2 hX dX3_digest_1 (List.mem_of_getElem? (i := 1) rfl) ?_
  refine j_iconst hX (1) dX3_digest_4 (by decide) ?_
  refine j_callV hX 2 (c_addNumber l g ri ria n capi fi (31 : Int64) 1 (by omega) (by omega) (by omega)) gX3_digest_X7_addNumber (by decide +kernel) rfl ⟨rfl, rfl⟩ ⟨Nat.le_of_ble_eq_true rfl, Nat.le_of_ble_eq_true rfl⟩ 7 3 rfl rfl [3, 4] rfl (by decide) (fun _ => rfl) rfl [] rfl (Nat.le_of_ble_eq_true rfl) ⟨Nat.le_refl _, Nat.le_refl _⟩ dX3_digest_5 ?_
  intro F1 hF1
  try dsimp only at hF1
  refine j_w [oB z 3 [.ref aa, .ref ba], lA g aa 25 A0, lA g ba 25 B0, oB ri 7 [.ref ria, .int (nI (n + 1))], bA g ria capi F1, oB ro 7 [.ref roa, .int (nI no)], bA g roa 32 fo] rfl ?_
  refine j_st [] rfl ?_
  refine j_aload_n hX 1 dX3_digest_8 rfl ?_
  refine j_lconst hX 0 dX3_digest_9 rfl ?_
  refine j_sipush hX (136) dX3_digest_10 (by decide) ?_
  refine j_pc 13 rfl ?_
  refine j_aload_n hX 1 dX3_digest_13 rfl ?_
  refine j_get hX in7 7 3 1 (v := .int (nI (n + 1))) rfl rfl (by decide) (List.mem_of_getElem? (i := 2) rfl) rfl rfl dX3_digest_14 ?_
  refine j_sipush hX (136) dX3_digest_17 (by decide) ?_
  refine j_iremN hX (n + 1) 136 (by omega) (by omega) (by omega) dX3_digest_20 ?_
  refine j_isubN hX 136 ((n + 1) % 136) (by omega) dX3_digest_21 ?_
  refine j_sipush hX (136) dX3_digest_22 (by decide) ?_
  refine j_iremN hX (136 - ((n + 1) % 136)) 136 (by omega) (by omega) (by omega) dX3_digest_25 ?_
  refine j_callV hX 2 (c_addNumber l g ri ria (n + 1) capi F1 (0 : Int64) ((136 - ((n + 1) % 136)) % 136) (by omega) (by omega) (by omega)) gX3_digest_X7_addNumber (by decide +kernel) rfl ⟨rfl, rfl⟩ ⟨Nat.le_of_ble_eq_true rfl, Nat.le_of_ble_eq_true rfl⟩ 7 3 rfl rfl [3, 4] rfl (by decide) (fun _ => rfl) rfl [] rfl (Nat.le_of_ble_eq_true rfl) ⟨Nat.le_refl _, Nat.le_refl _⟩ dX3_digest_26 ?_
  intro F2 hF2
  try dsimp only at hF2
  refine j_w [oB z 3 [.ref aa, .ref ba], lA g aa 25 A0, lA g ba 25 B0, oB ri 7 [.ref ria, .int (nI ((n + 1) + ((136 - ((n + 1) % 136)) % 136)))], bA g ria capi F2, oB ro 7 [.ref roa, .int (nI no)], bA g roa 32 fo] rfl ?_
  refine j_st [] rfl ?_
  have hU := u1_eq hF1 hF2
  have hm := z1_mod n
  have hzl := z1_lt n
  have hz1 : z1 n = (136 - (n + 1) % 136) % 136 := rfl
  obtain ⟨nl, hnl⟩ : ∃ q, q = n + 1 + (136 - (n + 1) % 136) % 136 := ⟨_, rfl⟩
  refine j_w [oB z 3 [.ref aa, .ref ba], lA g aa 25 A0, lA g ba 25 B0, oB ri 7 [.ref ria, .int (nI nl)], bA g ria capi F2, oB ro 7 [.ref roa, .int (nI no)], bA g roa 32 fo] (by rw [hnl]) ?_
  refine j_pc 29 rfl ?_
  refine j_aload_n hX 1 dX3_digest_29 rfl ?_
  refine j_aload_n hX 1 dX3_digest_30 rfl ?_
  refine j_get hX in7 7 3 1 (v := .int (nI nl)) rfl rfl (by decide) (List.mem_of_getElem? (i := 2) rfl) rfl rfl dX3_digest_31 ?_
  refine j_iconst hX (1) dX3_digest_34 (by decide) ?_
  refine j_isubN hX nl 1 (by omega) dX3_digest_35 ?_
  refine j_aload_n hX 1 dX3_digest_36 rfl ?_
  refine j_aload_n hX 1 dX3_digest_37 rfl ?_
  refine j_get hX in7 7 3 1 (v := .int (nI nl)) rfl rfl (by decide) (List.mem_of_getElem? (i := 2) rfl) rfl rfl dX3_digest_38 ?_
  refine j_pc 41 rfl ?_
  refine j_iconst hX (1) dX3_digest_41 (by decide) ?_
  refine j_isubN hX nl 1 (by omega) dX3_digest_42 ?_
  refine j_callV hX 1 (c_at l g ri ria nl capi F2 (nI (nl - 1)) (by omega) (by omega)) gX3_digest_X7_at (by decide +kernel) rfl ⟨rfl, rfl⟩ ⟨Nat.le_of_ble_eq_true rfl, Nat.le_of_ble_eq_true rfl⟩ 7 3 rfl rfl [3, 4] rfl (by decide) (fun _ => rfl) rfl [.int (nI (nl - 1)), .ref ri] rfl (Nat.le_of_ble_eq_true rfl) ⟨Nat.le_refl _, Nat.le_refl _⟩ dX3_digest_43 ?_
  intro _ hu_1
  refine j_w [oB z 3 [.ref aa, .ref ba], lA g aa 25 A0, lA g ba 25 B0, oB ri 7 [.ref ria, .int (nI nl)], bA g ria capi F2, oB ro 7 [.ref roa, .int (nI no)], bA g roa 32 fo] rfl ?_
  refine j_st [.int (rAt F2 nl (nI (nl - 1))), .int (nI (nl - 1)), .ref ri] rfl ?_
  refine j_topeq _ (F2 (nl - 1) &&& 255) (rAt_in (by omega) (by omega)) ?_
  refine j_sipush hX (128) dX3_digest_46 (by decide) ?_
  refine j_ixor hX dX3_digest_49 ?_
  refine j_callV hX 2 (c_put l g ri ria nl capi F2 (nl - 1) ((F2 (nl - 1) &&& 255) ^^^ 128) (by omega) (by omega) (by omega)) gX3_digest_X7_put (by decide +kernel) rfl ⟨rfl, rfl⟩ ⟨Nat.le_of_ble_eq_true rfl, Nat.le_of_ble_eq_true rfl⟩ 7 3 rfl rfl [3, 4] rfl (by decide) (fun _ => rfl) rfl [] rfl (Nat.le_of_ble_eq_true rfl) ⟨Nat.le_refl _, Nat.le_refl _⟩ dX3_digest_50 ?_
  intro F3 hF3
  try dsimp only at hF3
  refine j_w [oB z 3 [.ref aa, .ref ba], lA g aa 25 A0, lA g ba 25 B0, oB ri 7 [.ref ria, .int (nI nl)], bA g ria capi F3, oB ro 7 [.ref roa, .int (nI no)], bA g roa 32 fo] rfl ?_
  refine j_st [] rfl ?_
  have hP3 : F3 = pf1 fi n := by rw [hF3, hU, show nl - 1 = n + z1 n by omega, last1_c]; rfl
  refine j_iconst hX (0) dX3_digest_53 (by decide) ?_
  refine j_st [.int (nI 0)] rfl ?_
  refine j_istore_n hX 3 [(3, .int (nI 0)), (0, .ref z), (1, .ref ri), (2, .ref ro)] dX3_digest_54 rfl (by decide) rfl ?_
  have lp_2 : ∀ (n_3 : Nat) (i : Nat) (AL : Nat → Int64), (25 - i < n_3) → (i ≤ 25) → (∀ j, j < i → AL j = 0) → J p l e ({ frames := 1, cells := 0, slots := 0, locals := 41 } : Room) s m ([.ref z, .ref ri, .ref ro] : List Value).toArray below meth c g A 5 Q 0 0 [oB z 3 [.ref aa, .ref ba], lA g aa 25 AL, lA g ba 25 B0, oB ri 7 [.ref ria, .int (nI nl)], bA g ria capi F3, oB ro 7 [.ref roa, .int (nI no)], bA g roa 32 fo] [(0, .ref z), (1, .ref ri), (2, .ref ro), (3, .int (nI i))] 55 [] := by
    intro n_3
    induction n_3 with
    | zero => intro i AL hm; exact absurd hm (Nat.not_lt_zero _)
    | succ n_3 ih_4 =>
      intro i AL hm hi hA
      refine j_pc 55 rfl ?_
      refine j_iload_n hX 3 dX3_digest_55 rfl ?_
      refine j_bipush hX (25) dX3_digest_56 (by decide) ?_
      refine j_icmp_geN hX i 25 74 dX3_digest_58 (by decide) (by omega) (by omega) (fun b_58 => ?_) (fun b_58 => ?_)
      · skip
        refine j_iconst hX (0) dX3_digest_74 (by decide) ?_
        refine j_st [.int (nI 0)] rfl ?_
        refine j_istore_n hX 3 [(3, .int (nI 0)), (0, .ref z), (1, .ref ri), (2, .ref ro)] dX3_digest_75 rfl (by decide) rfl ?_
        have lp_5 : ∀ (n_6 : Nat) (t : Nat) (k : Nat) (AL : Nat → Int64) (BL : Nat → Int64), (nl - t < n_6) → (t = 136 * k) → (t ≤ nl) → (eq25 AL (hs1 F3 k)) → J p l e ({ frames := 1, cells := 0, slots := 0, locals := 41 } : Room) s m ([.ref z, .ref ri, .ref ro] : List Value).toArray below meth c g A 5 Q 0 0 [oB z 3 [.ref aa, .ref ba], lA g aa 25 AL, lA g ba 25 BL, oB ri 7 [.ref ria, .int (nI nl)], bA g ria capi F3, oB ro 7 [.ref roa, .int (nI no)], bA g roa 32 fo] [(0, .ref z), (1, .ref ri), (2, .ref ro), (3, .int (nI t))] 76 [] := by
          intro n_6
          induction n_6 with
          | zero => intro t k AL BL hm; exact absurd hm (Nat.not_lt_zero _)
          | succ n_6 ih_7 =>
            intro t k AL BL hm ht htl hA
            refine j_iload_n hX 3 dX3_digest_76 rfl ?_
            refine j_sipush hX (136) dX3_digest_77 (by decide) ?_
            refine j_iaddN hX t 136 dX3_digest_80 ?_
            refine j_pc 81 rfl ?_
            refine j_aload_n hX 1 dX3_digest_81 rfl ?_
            refine j_get hX in7 7 3 1 (v := .int (nI nl)) rfl rfl (by decide) (List.mem_of_getElem? (i := 2) rfl) rfl rfl dX3_digest_82 ?_
            refine j_icmp_gtN hX (t + 136) nl 136 dX3_digest_85 (by decide) (by omega) (by omega) (fun b_85 => ?_) (fun b_85 => ?_)
            · skip
              refine j_aload_n hX 2 dX3_digest_136 rfl ?_
              refine j_callV hX 0 (c_clear l g ro roa (nI no) ) gX3_digest_X7_clear (by decide +kernel) rfl ⟨rfl, rfl⟩ ⟨Nat.le_of_ble_eq_true rfl, Nat.le_of_ble_eq_true rfl⟩ 7 5 rfl rfl [5] rfl (by decide) (fun _ => rfl) rfl [] rfl (Nat.le_of_ble_eq_true rfl) ⟨Nat.le_refl _, Nat.le_refl _⟩ dX3_digest_137 ?_
              intro _ hu_8
              refine j_w [oB z 3 [.ref aa, .ref ba], lA g aa 25 AL, lA g ba 25 BL, oB ri 7 [.ref ria, .int (nI nl)], bA g ria capi F3, oB ro 7 [.ref roa, .int (nI 0)], bA g roa 32 fo] rfl ?_
              refine j_st [] rfl ?_
              refine j_iconst hX (0) dX3_digest_140 (by decide) ?_
              refine j_st [.int (nI 0)] rfl ?_
              refine j_istore_n hX 3 [(3, .int (nI 0)), (0, .ref z), (1, .ref ri), (2, .ref ro)] dX3_digest_141 rfl (by decide) rfl ?_
              have lp_9 : ∀ (n_10 : Nat) (i : Nat) (FO : Nat → Int32), (32 - i < n_10) → (i ≤ 32) → (FO = putL fo 0 (D1l AL i)) → J p l e ({ frames := 1, cells := 0, slots := 0, locals := 41 } : Room) s m ([.ref z, .ref ri, .ref ro] : List Value).toArray below meth c g A 5 Q 0 0 [oB z 3 [.ref aa, .ref ba], lA g aa 25 AL, lA g ba 25 BL, oB ri 7 [.ref ria, .int (nI nl)], bA g ria capi F3, oB ro 7 [.ref roa, .int (nI i)], bA g roa 32 FO] [(0, .ref z), (1, .ref ri), (2, .ref ro), (3, .int (nI i))] 142 [] := by
                intro n_10
                induction n_10 with
                | zero => intro i FO hm; exact absurd hm (Nat.not_lt_zero _)
                | succ n_10 ih_11 =>
                  intro i FO hm hi hO
                  refine j_iload_n hX 3 dX3_digest_142 rfl ?_
                  refine j_pc 143 rfl ?_
                  refine j_bipush hX (32) dX3_digest_143 (by decide) ?_
                  refine j_icmp_geN hX i 32 176 dX3_digest_145 (by decide) (by omega) (by omega) (fun b_145 => ?_) (fun b_145 => ?_)
                  · skip
                    have h32 : i = 32 := by omega
                    subst h32
                    have hk136 : t = nl := by omega
                    rw [hP3] at hA
                    have hH := HASH1_of hA (by omega)
                    exact hret (AL, BL, nl, F3, FO) (by dsimp only; exact ⟨by omega, by rw [hO, hH]⟩) 176 _ .return_ dX3_digest_176 rfl
                  · skip
                    refine j_aload_n hX 2 dX3_digest_148 rfl ?_
                    refine j_aload_n hX 0 dX3_digest_149 rfl ?_
                    refine j_get hX in3 3 0 0 (v := .ref aa) rfl rfl (by decide) (List.mem_of_getElem? (i := 3) rfl) rfl rfl dX3_digest_150 ?_
                    refine j_iload_n hX 3 dX3_digest_153 rfl ?_
                    refine j_bipush hX (8) dX3_digest_154 (by decide) ?_
                    refine j_pc 156 rfl ?_
                    refine j_idivN hX i 8 (by omega) (by omega) (by omega) dX3_digest_156 ?_
                    refine j_laldN hX 1 (i / 8) rfl (by omega) (by omega) dX3_digest_157 ?_
                    refine j_bipush hX (8) dX3_digest_158 (by decide) ?_
                    refine j_iload_n hX 3 dX3_digest_160 rfl ?_
                    refine j_bipush hX (8) dX3_digest_161 (by decide) ?_
                    refine j_iremN hX i 8 (by omega) (by omega) (by omega) dX3_digest_163 ?_
                    refine j_imulN hX 8 (i % 8) dX3_digest_164 ?_
                    refine j_lushr hX dX3_digest_165 ?_
                    refine j_pc 166 rfl ?_
                    refine j_iconst hX (1) dX3_digest_166 (by decide) ?_
                    refine j_callV hX 2 (c_addNumber l g ro roa i 32 FO (lush (AL (i / 8)) (nI (8 * (i % 8)))) 1 (by omega) (by omega) (by omega)) gX3_digest_X7_addNumber (by decide +kernel) rfl ⟨rfl, rfl⟩ ⟨Nat.le_of_ble_eq_true rfl, Nat.le_of_ble_eq_true rfl⟩ 7 5 rfl rfl [5, 6] rfl (by decide) (fun _ => rfl) rfl [] rfl (Nat.le_of_ble_eq_true rfl) ⟨Nat.le_refl _, Nat.le_refl _⟩ dX3_digest_167 ?_
                    intro FO2 hFO2
                    try dsimp only at hFO2
                    refine j_w [oB z 3 [.ref aa, .ref ba], lA g aa 25 AL, lA g ba 25 BL, oB ri 7 [.ref ria, .int (nI nl)], bA g ria capi F3, oB ro 7 [.ref roa, .int (nI (i + 1))], bA g roa 32 FO2] rfl ?_
                    refine j_st [] rfl ?_
                    refine j_iincN hX i (i + 1) [(3, .int (nI (i + 1))), (0, .ref z), (1, .ref ri), (2, .ref ro)] 3 dX3_digest_170 rfl (nI_1 _) (by decide) rfl ?_
                    refine j_goto hX 142 dX3_digest_173 (by decide) ?_
                    refine j_perm [(0, .ref z), (1, .ref ri), (2, .ref ro), (3, .int (nI (i + 1)))] [1, 2, 3, 0] rfl ?_
                    exact ih_11 (i + 1) FO2 (by omega) (by omega) (by rw [hFO2, hO, putL_app' (by rw [D1l_length]; omega), Zl_1 _ (by omega)]; rfl)
              refine j_perm [(0, .ref z), (1, .ref ri), (2, .ref ro), (3, .int (nI 0))] [1, 2, 3, 0] rfl ?_
              exact lp_9 _ 0 fo (Nat.lt_succ_self _) (by omega) (by rw [D1l, putL_nil])
            · skip
              refine j_aload_n hX 0 dX3_digest_88 rfl ?_
              refine j_aload_n hX 1 dX3_digest_89 rfl ?_
              refine j_get hX in7 7 3 0 (v := .ref ria) rfl rfl (by decide) (List.mem_of_getElem? (i := 4) rfl) rfl rfl dX3_digest_90 ?_
              refine j_iload_n hX 3 dX3_digest_93 rfl ?_
              refine j_pc 94 rfl ?_
              refine j_callV hX 2 (c_absorb l g z aa ba ria capi AL F3 t (by omega) (by omega)) gX3_digest_X3_absorb (by decide +kernel) rfl ⟨rfl, rfl⟩ ⟨Nat.le_of_ble_eq_true rfl, Nat.le_of_ble_eq_true rfl⟩ 3 0 rfl rfl [0, 1, 4] rfl (by decide) (fun _ => rfl) rfl [] rfl (Nat.le_of_ble_eq_true rfl) ⟨Nat.le_refl _, Nat.le_refl _⟩ dX3_digest_94 ?_
              intro A1 hA1
              try dsimp only at hA1
              refine j_w [oB z 3 [.ref aa, .ref ba], lA g aa 25 A1, lA g ba 25 BL, oB ri 7 [.ref ria, .int (nI nl)], bA g ria capi F3, oB ro 7 [.ref roa, .int (nI no)], bA g roa 32 fo] rfl ?_
              refine j_st [] rfl ?_
              refine j_iconst hX (0) dX3_digest_97 (by decide) ?_
              refine j_st [.int (nI 0)] rfl ?_
              refine j_istore hX [(4, .int (nI 0)), (0, .ref z), (1, .ref ri), (2, .ref ro), (3, .int (nI t))] dX3_digest_98 (by decide) rfl ?_
              have lp_12 : ∀ (n_13 : Nat) (r : Nat) (A2 : Nat → Int64) (B2 : Nat → Int64), (24 - r < n_13) → (r ≤ 24) → (eq25 A2 (kF A1 r)) → J p l e ({ frames := 1, cells := 0, slots := 0, locals := 41 } : Room) s m ([.ref z, .ref ri, .ref ro] : List Value).toArray below meth c g A 5 Q 0 0 [oB z 3 [.ref aa, .ref ba], lA g aa 25 A2, lA g ba 25 B2, oB ri 7 [.ref ria, .int (nI nl)], bA g ria capi F3, oB ro 7 [.ref roa, .int (nI no)], bA g roa 32 fo] [(0, .ref z), (1, .ref ri), (2, .ref ro), (3, .int (nI t)), (4, .int (nI r))] 100 [] := by
                intro n_13
                induction n_13 with
                | zero => intro r A2 B2 hm; exact absurd hm (Nat.not_lt_zero _)
                | succ n_13 ih_14 =>
                  intro r A2 B2 hm hr hR
                  refine j_iload hX 4 dX3_digest_100 rfl ?_
                  refine j_bipush hX (24) dX3_digest_102 (by decide) ?_
                  refine j_icmp_geN hX r 24 127 dX3_digest_104 (by decide) (by omega) (by omega) (fun b_104 => ?_) (fun b_104 => ?_)
                  · skip
                    refine j_iincWN hX t (t + 136) [(3, .int (nI (t + 136))), (0, .ref z), (1, .ref ri), (2, .ref ro), (4, .int (nI r))] 3 dX3_digest_127 rfl (nI_add _ _) (by decide) rfl ?_
                    refine j_goto hX 76 dX3_digest_133 (by decide) ?_
                    refine j_perm [(0, .ref z), (1, .ref ri), (2, .ref ro), (3, .int (nI (t + 136)))] [1, 2, 3, 0] rfl ?_
                    exact ih_7 (t + 136) (k + 1) A2 B2 (by omega) (by omega) (by omega) (by rw [hs1, ← ht]; obtain rfl : r = 24 := (by omega); exact hR.tr (kF_congr (by rw [hA1]; exact absr_congr hA 136 (Nat.le_refl _) (fun _ _ => rfl)) 24))
                  · skip
                    refine j_pc 107 rfl ?_
                    refine j_aload_n hX 0 dX3_digest_107 rfl ?_
                    refine j_callV hX 0 (c_mixColumns l g z aa ba A2 ) gX3_digest_X3_mixColumns (by decide +kernel) rfl ⟨rfl, rfl⟩ ⟨Nat.le_of_ble_eq_true rfl, Nat.le_of_ble_eq_true rfl⟩ 3 0 rfl rfl [0, 1] rfl (by decide) (fun _ => rfl) rfl [] rfl (Nat.le_of_ble_eq_true rfl) ⟨Nat.le_refl _, Nat.le_refl _⟩ dX3_digest_108 ?_
                    intro T1 hT1
                    try dsimp only at hT1
                    refine j_w [oB z 3 [.ref aa, .ref ba], lA g aa 25 T1, lA g ba 25 B2, oB ri 7 [.ref ria, .int (nI nl)], bA g ria capi F3, oB ro 7 [.ref roa, .int (nI no)], bA g roa 32 fo] rfl ?_
                    refine j_st [] rfl ?_
                    refine j_aload_n hX 0 dX3_digest_111 rfl ?_
                    refine j_gets hX hX.2.2.2.2.1 (List.mem_of_getElem? (i := 5) rfl) rfl dX3_digest_112 (fun t_15 ht_15 => ?_)
                    refine j_iload hX 4 dX3_digest_115 rfl ?_
                    refine j_tlN hX r (.long (s_round.getD r 0)) ht_15 (by omega) (by decide) rfl dX3_digest_117 ?_
                    refine j_callV hX 1 (c_turnRows l g z aa ba T1 B2 (s_round.getD r 0) ) gX3_digest_X3_turnAndMixRows (by decide +kernel) rfl ⟨rfl, rfl⟩ ⟨Nat.le_of_ble_eq_true rfl, Nat.le_of_ble_eq_true rfl⟩ 3 0 rfl rfl [0, 1, 2] rfl (by decide) (fun _ => rfl) rfl [] rfl (Nat.le_of_ble_eq_true rfl) ⟨Nat.le_refl _, Nat.le_refl _⟩ dX3_digest_118 ?_
                    rintro ⟨A3, B3⟩ hA3
                    try dsimp only at hA3
                    refine j_w [oB z 3 [.ref aa, .ref ba], lA g aa 25 A3, lA g ba 25 B3, oB ri 7 [.ref ria, .int (nI nl)], bA g ria capi F3, oB ro 7 [.ref roa, .int (nI no)], bA g roa 32 fo] rfl ?_
                    refine j_st [] rfl ?_
                    refine j_iincN hX r (r + 1) [(4, .int (nI (r + 1))), (0, .ref z), (1, .ref ri), (2, .ref ro), (3, .int (nI t))] 4 dX3_digest_121 rfl (nI_1 _) (by decide) rfl ?_
                    refine j_pc 124 rfl ?_
                    refine j_goto hX 100 dX3_digest_124 (by decide) ?_
                    refine j_perm [(0, .ref z), (1, .ref ri), (2, .ref ro), (3, .int (nI t)), (4, .int (nI (r + 1)))] [1, 2, 3, 4, 0] rfl ?_
                    exact ih_14 (r + 1) A3 B3 (by omega) (by omega) ((round_of hT1 hA3).tr (kR_congr hR _))
              refine j_perm [(0, .ref z), (1, .ref ri), (2, .ref ro), (3, .int (nI t)), (4, .int (nI 0))] [1, 2, 3, 4, 0] rfl ?_
              exact lp_12 _ 0 A1 BL (Nat.lt_succ_self _) (by omega) (eq25.rf _)
        refine j_perm [(0, .ref z), (1, .ref ri), (2, .ref ro), (3, .int (nI 0))] [1, 2, 3, 0] rfl ?_
        exact lp_5 _ 0 0 AL B0 (Nat.lt_succ_self _) (by omega) (by omega) (fun j hj => hA j (by omega))
      · skip
        refine j_aload_n hX 0 dX3_digest_61 rfl ?_
        refine j_get hX in3 3 0 0 (v := .ref aa) rfl rfl (by decide) (List.mem_of_getElem? (i := 3) rfl) rfl rfl dX3_digest_62 ?_
        refine j_iload_n hX 3 dX3_digest_65 rfl ?_
        refine j_lconst hX 0 dX3_digest_66 rfl ?_
        refine j_lastN hX 1 i rfl (by omega) (by omega) [oB z 3 [.ref aa, .ref ba], lA g aa 25 (vp_updL AL i (0 : Int64)), lA g ba 25 B0, oB ri 7 [.ref ria, .int (nI nl)], bA g ria capi F3, oB ro 7 [.ref roa, .int (nI no)], bA g roa 32 fo] rfl dX3_digest_67 ?_
        refine j_iincN hX i (i + 1) [(3, .int (nI (i + 1))), (0, .ref z), (1, .ref ri), (2, .ref ro)] 3 dX3_digest_68 rfl (nI_1 _) (by decide) rfl ?_
        refine j_goto hX 55 dX3_digest_71 (by decide) ?_
        refine j_perm [(0, .ref z), (1, .ref ri), (2, .ref ro), (3, .int (nI (i + 1)))] [1, 2, 3, 0] rfl ?_
        exact ih_4 (i + 1) (vp_updL AL i (0 : Int64)) (by omega) (by omega) (fun j hj => by unfold vp_updL; split; rfl; exact hA j (by omega))
  refine j_perm [(0, .ref z), (1, .ref ri), (2, .ref ro), (3, .int (nI 0))] [1, 2, 3, 0] rfl ?_
  exact lp_2 _ 0 A0 (Nat.lt_succ_self _) (by omega) (fun j hj => absurd hj (Nat.not_lt_zero j))

