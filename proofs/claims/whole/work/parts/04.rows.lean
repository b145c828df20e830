section JR
variable {p : Program} {l : Launch} {e : Env} {R : Room} {s : State} {m : MethodId} {args : Array Value} {below : List Frame} {meth : Method} {c : Code} {g : jG} {A : Nat → Prop} {nL : Nat} {Q : State → Prop} {cells slots : Nat}
variable {ws : va_W} {lv : List (Nat × Value)} {pc : Nat} {st : List Value} {cc : ByteArray} {own : String} {Ts : List Cond}
theorem j_iconst (hX : jOK p s m args c g A cc nL own Ts) {n : Int} (v : Int32) (hd : decode cc pc = .ok (.iconst n, 1)) (hv : Int32.ofInt n = v) (k : J p l e R s m args below meth c g A nL Q cells slots ws lv (pc + 1) (.int v :: st)) : J p l e R s m args below meth c g A nL Q cells slots ws lv pc (st) :=
  fun H locs ls hP hD hS hl => lv_iconst hX.1.1 hX.1.2.1 hd hv (k H locs ls hP hD hS hl)
theorem j_bipush (hX : jOK p s m args c g A cc nL own Ts) {n : Int} (v : Int32) (hd : decode cc pc = .ok (.bipush n, 2)) (hv : (Int8.ofInt n).toInt32 = v) (k : J p l e R s m args below meth c g A nL Q cells slots ws lv (pc + 2) (.int v :: st)) : J p l e R s m args below meth c g A nL Q cells slots ws lv pc (st) :=
  fun H locs ls hP hD hS hl => lv_bipush hX.1.1 hX.1.2.1 hd hv (k H locs ls hP hD hS hl)
theorem j_sipush (hX : jOK p s m args c g A cc nL own Ts) {n : Int} (v : Int32) (hd : decode cc pc = .ok (.sipush n, 3)) (hv : (Int16.ofInt n).toInt32 = v) (k : J p l e R s m args below meth c g A nL Q cells slots ws lv (pc + 3) (.int v :: st)) : J p l e R s m args below meth c g A nL Q cells slots ws lv pc (st) :=
  fun H locs ls hP hD hS hl => lv_sipush hX.1.1 hX.1.2.1 hd hv (k H locs ls hP hD hS hl)
theorem j_lconst (hX : jOK p s m args c g A cc nL own Ts) {n : Fin 2} (v : Int64) (hd : decode cc pc = .ok (.lconst n, 1)) (hv : Int64.ofNat (n : Nat) = v) (k : J p l e R s m args below meth c g A nL Q cells slots ws lv (pc + 1) (.long v :: st)) : J p l e R s m args below meth c g A nL Q cells slots ws lv pc (st) :=
  fun H locs ls hP hD hS hl => lv_lconst hX.1.1 hX.1.2.1 hd hv (k H locs ls hP hD hS hl)
theorem j_ldc (hX : jOK p s m args c g A cc nL own Ts) {index : Nat} {v : Int32} (hd : decode cc pc = .ok (.ldc index, 2)) (hm : Cond.constant own index v ∈ Ts) (k : J p l e R s m args below meth c g A nL Q cells slots ws lv (pc + 2) (.int v :: st)) : J p l e R s m args below meth c g A nL Q cells slots ws lv pc (st) :=
  fun H locs ls hP hD hS hl => lv_ldc hX.1.1 hX.1.2.1 hX.1.2.2.2.1 (hX.1.2.2.2.2 _ hm) hd (k H locs ls hP hD hS hl)
theorem j_ldc2 (hX : jOK p s m args c g A cc nL own Ts) {index : Nat} {v : Int64} (hd : decode cc pc = .ok (.ldc2_w index, 3)) (hm : Cond.constantLong own index v ∈ Ts) (k : J p l e R s m args below meth c g A nL Q cells slots ws lv (pc + 3) (.long v :: st)) : J p l e R s m args below meth c g A nL Q cells slots ws lv pc (st) :=
  fun H locs ls hP hD hS hl => lv_ldc2 hX.1.1 hX.1.2.1 hX.1.2.2.2.1 (hX.1.2.2.2.2 _ hm) hd (k H locs ls hP hD hS hl)
theorem j_iload_n (hX : jOK p s m args c g A cc nL own Ts) {k : Fin 4} {x : Int32} (q : Nat) (hd : decode cc pc = .ok (.iload_n k, 1)) (hq : lv[q]? = some ((k : Nat), .int x)) (k : J p l e R s m args below meth c g A nL Q cells slots ws lv (pc + 1) (.int x :: st)) : J p l e R s m args below meth c g A nL Q cells slots ws lv pc (st) :=
  fun H locs ls hP hD hS hl => lv_iload_n hX.1.1 hX.1.2.1 hd rfl (lv_at hl q hq) (k H locs ls hP hD hS hl)
theorem j_iload (hX : jOK p s m args c g A cc nL own Ts) {i : Nat} {x : Int32} (q : Nat) (hd : decode cc pc = .ok (.iload i, 2)) (hq : lv[q]? = some (i, .int x)) (k : J p l e R s m args below meth c g A nL Q cells slots ws lv (pc + 2) (.int x :: st)) : J p l e R s m args below meth c g A nL Q cells slots ws lv pc (st) :=
  fun H locs ls hP hD hS hl => lv_iload hX.1.1 hX.1.2.1 hd (lv_at hl q hq) (k H locs ls hP hD hS hl)
theorem j_istore_n (hX : jOK p s m args c g A cc nL own Ts) {k : Fin 4} (i : Nat) {x : Int32} (lv' : List (Nat × Value)) (hd : decode cc pc = .ok (.istore_n k, 1)) (hi : (k : Nat) = i) (hn : i < nL) (hv : (i, Value.int x) :: lv.filter (fun q => !(q.1 == i) && !(q.1 + 1 == i && q.2.category == 2)) = lv') (k : J p l e R s m args below meth c g A nL Q cells slots ws lv' (pc + 1) st) : J p l e R s m args below meth c g A nL Q cells slots ws lv pc (.int x :: st) :=
  fun H locs ls hP hD hS hl => lv_istore_n hX.1.1 hX.1.2.1 hd hi hl hn hv (fun ls' hl' => k H locs ls' hP hD hS hl')
theorem j_istore (hX : jOK p s m args c g A cc nL own Ts) {i : Nat} {x : Int32} (lv' : List (Nat × Value)) (hd : decode cc pc = .ok (.istore i, 2)) (hn : i < nL) (hv : (i, Value.int x) :: lv.filter (fun q => !(q.1 == i) && !(q.1 + 1 == i && q.2.category == 2)) = lv') (k : J p l e R s m args below meth c g A nL Q cells slots ws lv' (pc + 2) st) : J p l e R s m args below meth c g A nL Q cells slots ws lv pc (.int x :: st) :=
  fun H locs ls hP hD hS hl => lv_istore hX.1.1 hX.1.2.1 hd hl hn hv (fun ls' hl' => k H locs ls' hP hD hS hl')
theorem j_lload_n (hX : jOK p s m args c g A cc nL own Ts) {k : Fin 4} {x : Int64} (q : Nat) (hd : decode cc pc = .ok (.lload_n k, 1)) (hq : lv[q]? = some ((k : Nat), .long x)) (k : J p l e R s m args below meth c g A nL Q cells slots ws lv (pc + 1) (.long x :: st)) : J p l e R s m args below meth c g A nL Q cells slots ws lv pc (st) :=
  fun H locs ls hP hD hS hl => lv_lload_n hX.1.1 hX.1.2.1 hd rfl (lv_at hl q hq) (k H locs ls hP hD hS hl)
theorem j_lload (hX : jOK p s m args c g A cc nL own Ts) {i : Nat} {x : Int64} (q : Nat) (hd : decode cc pc = .ok (.lload i, 2)) (hq : lv[q]? = some (i, .long x)) (k : J p l e R s m args below meth c g A nL Q cells slots ws lv (pc + 2) (.long x :: st)) : J p l e R s m args below meth c g A nL Q cells slots ws lv pc (st) :=
  fun H locs ls hP hD hS hl => lv_lload hX.1.1 hX.1.2.1 hd (lv_at hl q hq) (k H locs ls hP hD hS hl)
theorem j_lstore_n (hX : jOK p s m args c g A cc nL own Ts) {k : Fin 4} (i : Nat) {x : Int64} (lv' : List (Nat × Value)) (hd : decode cc pc = .ok (.lstore_n k, 1)) (hi : (k : Nat) = i) (hn : i + 1 < nL) (hv : (i, Value.long x) :: lv.filter (fun q => !(q.1 == i) && (!(q.1 == i + 1) && !(q.1 + 1 == i && q.2.category == 2))) = lv') (k : J p l e R s m args below meth c g A nL Q cells slots ws lv' (pc + 1) st) : J p l e R s m args below meth c g A nL Q cells slots ws lv pc (.long x :: st) :=
  fun H locs ls hP hD hS hl => lv_lstore_n hX.1.1 hX.1.2.1 hd hi hl hn hv (fun ls' hl' => k H locs ls' hP hD hS hl')
theorem j_lstore (hX : jOK p s m args c g A cc nL own Ts) {i : Nat} {x : Int64} (lv' : List (Nat × Value)) (hd : decode cc pc = .ok (.lstore i, 2)) (hn : i + 1 < nL) (hv : (i, Value.long x) :: lv.filter (fun q => !(q.1 == i) && (!(q.1 == i + 1) && !(q.1 + 1 == i && q.2.category == 2))) = lv') (k : J p l e R s m args below meth c g A nL Q cells slots ws lv' (pc + 2) st) : J p l e R s m args below meth c g A nL Q cells slots ws lv pc (.long x :: st) :=
  fun H locs ls hP hD hS hl => lv_lstore hX.1.1 hX.1.2.1 hd hl hn hv (fun ls' hl' => k H locs ls' hP hD hS hl')
theorem j_aload_n (hX : jOK p s m args c g A cc nL own Ts) {k : Fin 4} {x : Nat} (q : Nat) (hd : decode cc pc = .ok (.aload_n k, 1)) (hq : lv[q]? = some ((k : Nat), .ref x)) (k : J p l e R s m args below meth c g A nL Q cells slots ws lv (pc + 1) (.ref x :: st)) : J p l e R s m args below meth c g A nL Q cells slots ws lv pc (st) :=
  fun H locs ls hP hD hS hl => lv_aload_n hX.1.1 hX.1.2.1 hd rfl (lv_at hl q hq) (k H locs ls hP hD hS hl)
theorem j_aload (hX : jOK p s m args c g A cc nL own Ts) {i : Nat} {x : Nat} (q : Nat) (hd : decode cc pc = .ok (.aload i, 2)) (hq : lv[q]? = some (i, .ref x)) (k : J p l e R s m args below meth c g A nL Q cells slots ws lv (pc + 2) (.ref x :: st)) : J p l e R s m args below meth c g A nL Q cells slots ws lv pc (st) :=
  fun H locs ls hP hD hS hl => lv_aload hX.1.1 hX.1.2.1 hd (lv_at hl q hq) (k H locs ls hP hD hS hl)
theorem j_astore_n (hX : jOK p s m args c g A cc nL own Ts) {k : Fin 4} (i : Nat) {x : Nat} (lv' : List (Nat × Value)) (hd : decode cc pc = .ok (.astore_n k, 1)) (hi : (k : Nat) = i) (hn : i < nL) (hv : (i, Value.ref x) :: lv.filter (fun q => !(q.1 == i) && !(q.1 + 1 == i && q.2.category == 2)) = lv') (k : J p l e R s m args below meth c g A nL Q cells slots ws lv' (pc + 1) st) : J p l e R s m args below meth c g A nL Q cells slots ws lv pc (.ref x :: st) :=
  fun H locs ls hP hD hS hl => lv_astore_n hX.1.1 hX.1.2.1 hd hi hl hn hv (fun ls' hl' => k H locs ls' hP hD hS hl')
theorem j_astore (hX : jOK p s m args c g A cc nL own Ts) {i : Nat} {x : Nat} (lv' : List (Nat × Value)) (hd : decode cc pc = .ok (.astore i, 2)) (hn : i < nL) (hv : (i, Value.ref x) :: lv.filter (fun q => !(q.1 == i) && !(q.1 + 1 == i && q.2.category == 2)) = lv') (k : J p l e R s m args below meth c g A nL Q cells slots ws lv' (pc + 2) st) : J p l e R s m args below meth c g A nL Q cells slots ws lv pc (.ref x :: st) :=
  fun H locs ls hP hD hS hl => lv_astore hX.1.1 hX.1.2.1 hd hl hn hv (fun ls' hl' => k H locs ls' hP hD hS hl')
theorem j_iinc (hX : jOK p s m args c g A cc nL own Ts) {i : Nat} {n : Int} {x : Int32} (v : Int32) (lv' : List (Nat × Value)) (q : Nat) (hd : decode cc pc = .ok (.iinc i n, 3)) (hq : lv[q]? = some (i, .int x)) (hv : x + Int32.ofInt n = v) (hn : i < nL) (hw : (i, Value.int v) :: lv.filter (fun q => !(q.1 == i) && !(q.1 + 1 == i && q.2.category == 2)) = lv') (k : J p l e R s m args below meth c g A nL Q cells slots ws lv' (pc + 3) st) : J p l e R s m args below meth c g A nL Q cells slots ws lv pc st :=
  fun H locs ls hP hD hS hl => lv_iinc hX.1.1 hX.1.2.1 hd hl hq hv hn hw (fun ls' hl' => k H locs ls' hP hD hS hl')
theorem j_iadd (hX : jOK p s m args c g A cc nL own Ts) {x y : Int32} (hd : decode cc pc = .ok (.iadd, 1)) (k : J p l e R s m args below meth c g A nL Q cells slots ws lv (pc + 1) (.int (x + y) :: st)) : J p l e R s m args below meth c g A nL Q cells slots ws lv pc (.int y :: .int x :: st) :=
  fun H locs ls hP hD hS hl => lv_iadd hX.1.1 hX.1.2.1 hd (k H locs ls hP hD hS hl)
theorem j_isub (hX : jOK p s m args c g A cc nL own Ts) {x y : Int32} (hd : decode cc pc = .ok (.isub, 1)) (k : J p l e R s m args below meth c g A nL Q cells slots ws lv (pc + 1) (.int (x - y) :: st)) : J p l e R s m args below meth c g A nL Q cells slots ws lv pc (.int y :: .int x :: st) :=
  fun H locs ls hP hD hS hl => lv_isub hX.1.1 hX.1.2.1 hd (k H locs ls hP hD hS hl)
theorem j_imul (hX : jOK p s m args c g A cc nL own Ts) {x y : Int32} (hd : decode cc pc = .ok (.imul, 1)) (k : J p l e R s m args below meth c g A nL Q cells slots ws lv (pc + 1) (.int (x * y) :: st)) : J p l e R s m args below meth c g A nL Q cells slots ws lv pc (.int y :: .int x :: st) :=
  fun H locs ls hP hD hS hl => lv_imul hX.1.1 hX.1.2.1 hd (k H locs ls hP hD hS hl)
theorem j_iand (hX : jOK p s m args c g A cc nL own Ts) {x y : Int32} (hd : decode cc pc = .ok (.iand, 1)) (k : J p l e R s m args below meth c g A nL Q cells slots ws lv (pc + 1) (.int (x &&& y) :: st)) : J p l e R s m args below meth c g A nL Q cells slots ws lv pc (.int y :: .int x :: st) :=
  fun H locs ls hP hD hS hl => lv_iand hX.1.1 hX.1.2.1 hd (k H locs ls hP hD hS hl)
theorem j_ior (hX : jOK p s m args c g A cc nL own Ts) {x y : Int32} (hd : decode cc pc = .ok (.ior, 1)) (k : J p l e R s m args below meth c g A nL Q cells slots ws lv (pc + 1) (.int (x ||| y) :: st)) : J p l e R s m args below meth c g A nL Q cells slots ws lv pc (.int y :: .int x :: st) :=
  fun H locs ls hP hD hS hl => lv_ior hX.1.1 hX.1.2.1 hd (k H locs ls hP hD hS hl)
theorem j_ixor (hX : jOK p s m args c g A cc nL own Ts) {x y : Int32} (hd : decode cc pc = .ok (.ixor, 1)) (k : J p l e R s m args below meth c g A nL Q cells slots ws lv (pc + 1) (.int (x ^^^ y) :: st)) : J p l e R s m args below meth c g A nL Q cells slots ws lv pc (.int y :: .int x :: st) :=
  fun H locs ls hP hD hS hl => lv_ixor hX.1.1 hX.1.2.1 hd (k H locs ls hP hD hS hl)
theorem j_ishl (hX : jOK p s m args c g A cc nL own Ts) {x y : Int32} (hd : decode cc pc = .ok (.ishl, 1)) (k : J p l e R s m args below meth c g A nL Q cells slots ws lv (pc + 1) (.int (x <<< (y &&& 31)) :: st)) : J p l e R s m args below meth c g A nL Q cells slots ws lv pc (.int y :: .int x :: st) :=
  fun H locs ls hP hD hS hl => lv_ishl hX.1.1 hX.1.2.1 hd (k H locs ls hP hD hS hl)
theorem j_ishr (hX : jOK p s m args c g A cc nL own Ts) {x y : Int32} (hd : decode cc pc = .ok (.ishr, 1)) (k : J p l e R s m args below meth c g A nL Q cells slots ws lv (pc + 1) (.int (x >>> (y &&& 31)) :: st)) : J p l e R s m args below meth c g A nL Q cells slots ws lv pc (.int y :: .int x :: st) :=
  fun H locs ls hP hD hS hl => lv_ishr hX.1.1 hX.1.2.1 hd (k H locs ls hP hD hS hl)
theorem j_ladd (hX : jOK p s m args c g A cc nL own Ts) {x y : Int64} (hd : decode cc pc = .ok (.ladd, 1)) (k : J p l e R s m args below meth c g A nL Q cells slots ws lv (pc + 1) (.long (x + y) :: st)) : J p l e R s m args below meth c g A nL Q cells slots ws lv pc (.long y :: .long x :: st) :=
  fun H locs ls hP hD hS hl => lv_ladd hX.1.1 hX.1.2.1 hd (k H locs ls hP hD hS hl)
theorem j_lsub (hX : jOK p s m args c g A cc nL own Ts) {x y : Int64} (hd : decode cc pc = .ok (.lsub, 1)) (k : J p l e R s m args below meth c g A nL Q cells slots ws lv (pc + 1) (.long (x - y) :: st)) : J p l e R s m args below meth c g A nL Q cells slots ws lv pc (.long y :: .long x :: st) :=
  fun H locs ls hP hD hS hl => lv_lsub hX.1.1 hX.1.2.1 hd (k H locs ls hP hD hS hl)
theorem j_lmul (hX : jOK p s m args c g A cc nL own Ts) {x y : Int64} (hd : decode cc pc = .ok (.lmul, 1)) (k : J p l e R s m args below meth c g A nL Q cells slots ws lv (pc + 1) (.long (x * y) :: st)) : J p l e R s m args below meth c g A nL Q cells slots ws lv pc (.long y :: .long x :: st) :=
  fun H locs ls hP hD hS hl => lv_lmul hX.1.1 hX.1.2.1 hd (k H locs ls hP hD hS hl)
theorem j_land (hX : jOK p s m args c g A cc nL own Ts) {x y : Int64} (hd : decode cc pc = .ok (.land, 1)) (k : J p l e R s m args below meth c g A nL Q cells slots ws lv (pc + 1) (.long (x &&& y) :: st)) : J p l e R s m args below meth c g A nL Q cells slots ws lv pc (.long y :: .long x :: st) :=
  fun H locs ls hP hD hS hl => lv_land hX.1.1 hX.1.2.1 hd (k H locs ls hP hD hS hl)
theorem j_lor (hX : jOK p s m args c g A cc nL own Ts) {x y : Int64} (hd : decode cc pc = .ok (.lor, 1)) (k : J p l e R s m args below meth c g A nL Q cells slots ws lv (pc + 1) (.long (x ||| y) :: st)) : J p l e R s m args below meth c g A nL Q cells slots ws lv pc (.long y :: .long x :: st) :=
  fun H locs ls hP hD hS hl => lv_lor hX.1.1 hX.1.2.1 hd (k H locs ls hP hD hS hl)
theorem j_lxor (hX : jOK p s m args c g A cc nL own Ts) {x y : Int64} (hd : decode cc pc = .ok (.lxor, 1)) (k : J p l e R s m args below meth c g A nL Q cells slots ws lv (pc + 1) (.long (x ^^^ y) :: st)) : J p l e R s m args below meth c g A nL Q cells slots ws lv pc (.long y :: .long x :: st) :=
  fun H locs ls hP hD hS hl => lv_lxor hX.1.1 hX.1.2.1 hd (k H locs ls hP hD hS hl)
theorem j_idiv (hX : jOK p s m args c g A cc nL own Ts) {x y : Int32} (hd : decode cc pc = .ok (.idiv, 1)) (hne : ¬ y = 0) (k : J p l e R s m args below meth c g A nL Q cells slots ws lv (pc + 1) (.int (x / y) :: st)) : J p l e R s m args below meth c g A nL Q cells slots ws lv pc (.int y :: .int x :: st) :=
  fun H locs ls hP hD hS hl => lv_idiv hX.1.1 hX.1.2.1 hd hne (k H locs ls hP hD hS hl)
theorem j_irem (hX : jOK p s m args c g A cc nL own Ts) {x y : Int32} (hd : decode cc pc = .ok (.irem, 1)) (hne : ¬ y = 0) (k : J p l e R s m args below meth c g A nL Q cells slots ws lv (pc + 1) (.int (x - x / y * y) :: st)) : J p l e R s m args below meth c g A nL Q cells slots ws lv pc (.int y :: .int x :: st) :=
  fun H locs ls hP hD hS hl => lv_irem hX.1.1 hX.1.2.1 hd hne (k H locs ls hP hD hS hl)
def iush (x y : Int32) : Int32 := (x.toUInt32 >>> (y.toUInt32 &&& Int32.toUInt32 31)).toInt32
def lush (x : Int64) (y : Int32) : Int64 := (x.toUInt64 >>> (y.toInt64.toUInt64 &&& Int64.toUInt64 63)).toInt64
def lshl (x : Int64) (y : Int32) : Int64 := x <<< (y.toInt64 &&& 63)
def lshr (x : Int64) (y : Int32) : Int64 := x >>> (y.toInt64 &&& 63)
def i8 (x : Int32) : Int32 := x.toInt8.toInt32
theorem j_iushr (hX : jOK p s m args c g A cc nL own Ts) {x y : Int32} (hd : decode cc pc = .ok (.iushr, 1)) (k : J p l e R s m args below meth c g A nL Q cells slots ws lv (pc + 1) (.int (iush x y) :: st)) : J p l e R s m args below meth c g A nL Q cells slots ws lv pc (.int y :: .int x :: st) :=
  fun H locs ls hP hD hS hl => lv_iushr hX.1.1 hX.1.2.1 hd rfl (k H locs ls hP hD hS hl)
theorem j_lushr (hX : jOK p s m args c g A cc nL own Ts) {x : Int64} {y : Int32} (hd : decode cc pc = .ok (.lushr, 1)) (k : J p l e R s m args below meth c g A nL Q cells slots ws lv (pc + 1) (.long (lush x y) :: st)) : J p l e R s m args below meth c g A nL Q cells slots ws lv pc (.int y :: .long x :: st) :=
  fun H locs ls hP hD hS hl => lv_lushr hX.1.1 hX.1.2.1 hd rfl (k H locs ls hP hD hS hl)
theorem j_lshl (hX : jOK p s m args c g A cc nL own Ts) {x : Int64} {y : Int32} (hd : decode cc pc = .ok (.lshl, 1)) (k : J p l e R s m args below meth c g A nL Q cells slots ws lv (pc + 1) (.long (lshl x y) :: st)) : J p l e R s m args below meth c g A nL Q cells slots ws lv pc (.int y :: .long x :: st) :=
  fun H locs ls hP hD hS hl => lv_lshl hX.1.1 hX.1.2.1 hd rfl (k H locs ls hP hD hS hl)
theorem j_lshr (hX : jOK p s m args c g A cc nL own Ts) {x : Int64} {y : Int32} (hd : decode cc pc = .ok (.lshr, 1)) (k : J p l e R s m args below meth c g A nL Q cells slots ws lv (pc + 1) (.long (lshr x y) :: st)) : J p l e R s m args below meth c g A nL Q cells slots ws lv pc (.int y :: .long x :: st) :=
  fun H locs ls hP hD hS hl => lv_lshr hX.1.1 hX.1.2.1 hd rfl (k H locs ls hP hD hS hl)
theorem j_i2l (hX : jOK p s m args c g A cc nL own Ts) {x : Int32} (hd : decode cc pc = .ok (.i2l, 1)) (k : J p l e R s m args below meth c g A nL Q cells slots ws lv (pc + 1) (.long x.toInt64 :: st)) : J p l e R s m args below meth c g A nL Q cells slots ws lv pc (.int x :: st) :=
  fun H locs ls hP hD hS hl => lv_i2l hX.1.1 hX.1.2.1 hd rfl (k H locs ls hP hD hS hl)
theorem j_l2i (hX : jOK p s m args c g A cc nL own Ts) {x : Int64} (hd : decode cc pc = .ok (.l2i, 1)) (k : J p l e R s m args below meth c g A nL Q cells slots ws lv (pc + 1) (.int x.toInt32 :: st)) : J p l e R s m args below meth c g A nL Q cells slots ws lv pc (.long x :: st) :=
  fun H locs ls hP hD hS hl => lv_l2i hX.1.1 hX.1.2.1 hd rfl (k H locs ls hP hD hS hl)
theorem j_i2b (hX : jOK p s m args c g A cc nL own Ts) {x : Int32} (hd : decode cc pc = .ok (.i2b, 1)) (k : J p l e R s m args below meth c g A nL Q cells slots ws lv (pc + 1) (.int (i8 x) :: st)) : J p l e R s m args below meth c g A nL Q cells slots ws lv pc (.int x :: st) :=
  fun H locs ls hP hD hS hl => lv_i2b hX.1.1 hX.1.2.1 hd rfl (k H locs ls hP hD hS hl)
theorem j_dup (hX : jOK p s m args c g A cc nL own Ts) {va : Value} (hd : decode cc pc = .ok (.dup, 1)) (h1 : va.category = 1) (k : J p l e R s m args below meth c g A nL Q cells slots ws lv (pc + 1) (va :: va :: st)) : J p l e R s m args below meth c g A nL Q cells slots ws lv pc (va :: st) :=
  fun H locs ls hP hD hS hl => lv_dup hX.1.1 hX.1.2.1 hd h1 (k H locs ls hP hD hS hl)
theorem j_pop (hX : jOK p s m args c g A cc nL own Ts) {va : Value} (hd : decode cc pc = .ok (.pop, 1)) (h1 : va.category = 1) (k : J p l e R s m args below meth c g A nL Q cells slots ws lv (pc + 1) (st)) : J p l e R s m args below meth c g A nL Q cells slots ws lv pc (va :: st) :=
  fun H locs ls hP hD hS hl => lv_pop hX.1.1 hX.1.2.1 hd h1 (k H locs ls hP hD hS hl)
theorem j_dup2 (hX : jOK p s m args c g A cc nL own Ts) {va vb : Value} (hd : decode cc pc = .ok (.dup2, 1)) (h1 : va.category = 1) (h2 : vb.category = 1) (k : J p l e R s m args below meth c g A nL Q cells slots ws lv (pc + 1) (va :: vb :: va :: vb :: st)) : J p l e R s m args below meth c g A nL Q cells slots ws lv pc (va :: vb :: st) :=
  fun H locs ls hP hD hS hl => lv_dup2_11 hX.1.1 hX.1.2.1 hd h1 h2 (k H locs ls hP hD hS hl)
theorem j_iaddN (hX : jOK p s m args c g A cc nL own Ts) (a b : Nat) (hd : decode cc pc = .ok (.iadd, 1)) (k : J p l e R s m args below meth c g A nL Q cells slots ws lv (pc + 1) (.int (nI (a + b)) :: st)) : J p l e R s m args below meth c g A nL Q cells slots ws lv pc (.int (nI b) :: .int (nI a) :: st) := by
  refine j_iadd hX hd ?_
  rw [nI_add]
  exact k
theorem j_isubN (hX : jOK p s m args c g A cc nL own Ts) (a b : Nat) (hb : b ≤ a) (hd : decode cc pc = .ok (.isub, 1)) (k : J p l e R s m args below meth c g A nL Q cells slots ws lv (pc + 1) (.int (nI (a - b)) :: st)) : J p l e R s m args below meth c g A nL Q cells slots ws lv pc (.int (nI b) :: .int (nI a) :: st) := by
  refine j_isub hX hd ?_
  rw [pk_sub hb]
  exact k
theorem j_imulN (hX : jOK p s m args c g A cc nL own Ts) (a b : Nat) (hd : decode cc pc = .ok (.imul, 1)) (k : J p l e R s m args below meth c g A nL Q cells slots ws lv (pc + 1) (.int (nI (a * b)) :: st)) : J p l e R s m args below meth c g A nL Q cells slots ws lv pc (.int (nI b) :: .int (nI a) :: st) := by
  refine j_imul hX hd ?_
  rw [pk_mul]
  exact k
theorem j_idivN (hX : jOK p s m args c g A cc nL own Ts) (a b : Nat) (ha : a < 2 ^ 31) (h0 : 0 < b) (hb : b < 2 ^ 31) (hd : decode cc pc = .ok (.idiv, 1)) (k : J p l e R s m args below meth c g A nL Q cells slots ws lv (pc + 1) (.int (nI (a / b)) :: st)) : J p l e R s m args below meth c g A nL Q cells slots ws lv pc (.int (nI b) :: .int (nI a) :: st) := by
  refine j_idiv hX hd (nI_ne0 h0 hb) ?_
  rw [pk_div ha h0 hb]
  exact k
theorem j_iremN (hX : jOK p s m args c g A cc nL own Ts) (a b : Nat) (ha : a < 2 ^ 31) (h0 : 0 < b) (hb : b < 2 ^ 31) (hd : decode cc pc = .ok (.irem, 1)) (k : J p l e R s m args below meth c g A nL Q cells slots ws lv (pc + 1) (.int (nI (a % b)) :: st)) : J p l e R s m args below meth c g A nL Q cells slots ws lv pc (.int (nI b) :: .int (nI a) :: st) := by
  refine j_irem hX hd (nI_ne0 h0 hb) ?_
  rw [pk_rem ha h0 hb]
  exact k
theorem sl_N : ∀ n, n < 32 → ((nI n &&& 31).toBitVec.smod 32).toNat = n := by decide +kernel
theorem j_ishlN (hX : jOK p s m args c g A cc nL own Ts) (a b : Nat) (hb : b < 32) (ha : a * 2 ^ b < 2 ^ 32) (hd : decode cc pc = .ok (.ishl, 1)) (k : J p l e R s m args below meth c g A nL Q cells slots ws lv (pc + 1) (.int (nI (a * 2 ^ b)) :: st)) : J p l e R s m args below meth c g A nL Q cells slots ws lv pc (.int (nI b) :: .int (nI a) :: st) := by
  refine j_ishl hX hd ?_
  rw [pk_shlN (nI b &&& 31) b (sl_N b hb) ha]
  exact k
theorem j_ishrN (hX : jOK p s m args c g A cc nL own Ts) (a b : Nat) (hb : b < 32) (ha : a < 2 ^ 31) (hd : decode cc pc = .ok (.ishr, 1)) (k : J p l e R s m args below meth c g A nL Q cells slots ws lv (pc + 1) (.int (nI (a / 2 ^ b)) :: st)) : J p l e R s m args below meth c g A nL Q cells slots ws lv pc (.int (nI b) :: .int (nI a) :: st) := by
  refine j_ishr hX hd ?_
  rw [pk_shrN ha (nI b &&& 31) b (sl_N b hb)]
  exact k
theorem j_iincN (hX : jOK p s m args c g A cc nL own Ts) {i : Nat} {n : Int} (a b : Nat) (lv' : List (Nat × Value)) (q : Nat) (hd : decode cc pc = .ok (.iinc i n, 3)) (hq : lv[q]? = some (i, .int (nI a))) (hv : nI a + Int32.ofInt n = nI b) (hn : i < nL) (hw : (i, Value.int (nI b)) :: lv.filter (fun q => !(q.1 == i) && !(q.1 + 1 == i && q.2.category == 2)) = lv') (k : J p l e R s m args below meth c g A nL Q cells slots ws lv' (pc + 3) st) : J p l e R s m args below meth c g A nL Q cells slots ws lv pc st := j_iinc hX (nI b) lv' q hd hq hv hn hw k
theorem j_if_eq (hX : jOK p s m args c g A cc nL own Ts) {x : Int32} {off : Int} (tgt : Nat) (hd : decode cc pc = .ok (.ifCond .eq off, 3)) (ht : (pc : Int) + off = (tgt : Int)) (kt : x = 0 → J p l e R s m args below meth c g A nL Q cells slots ws lv tgt st) (kf : ¬ x = 0 → J p l e R s m args below meth c g A nL Q cells slots ws lv (pc + 3) st) : J p l e R s m args below meth c g A nL Q cells slots ws lv pc (.int x :: st) :=
  fun H locs ls hP hD hS hl => lv_if_eq hX.1.1 hX.1.2.1 hd ht (fun h => kt h H locs ls hP hD hS hl) (fun h => kf h H locs ls hP hD hS hl)
theorem j_icmp_eq (hX : jOK p s m args c g A cc nL own Ts) {x y : Int32} {off : Int} (tgt : Nat) (hd : decode cc pc = .ok (.if_icmp .eq off, 3)) (ht : (pc : Int) + off = (tgt : Int)) (kt : x = y → J p l e R s m args below meth c g A nL Q cells slots ws lv tgt st) (kf : ¬ x = y → J p l e R s m args below meth c g A nL Q cells slots ws lv (pc + 3) st) : J p l e R s m args below meth c g A nL Q cells slots ws lv pc (.int y :: .int x :: st) :=
  fun H locs ls hP hD hS hl => lv_icmp_eq hX.1.1 hX.1.2.1 hd ht (fun h => kt h H locs ls hP hD hS hl) (fun h => kf h H locs ls hP hD hS hl)
theorem j_icmp_eqN (hX : jOK p s m args c g A cc nL own Ts) (a b : Nat) {off : Int} (tgt : Nat) (hd : decode cc pc = .ok (.if_icmp .eq off, 3)) (ht : (pc : Int) + off = (tgt : Int)) (ha : a < 2 ^ 31) (hb : b < 2 ^ 31) (kt : a = b → J p l e R s m args below meth c g A nL Q cells slots ws lv tgt st) (kf : a ≠ b → J p l e R s m args below meth c g A nL Q cells slots ws lv (pc + 3) st) : J p l e R s m args below meth c g A nL Q cells slots ws lv pc (.int (nI b) :: .int (nI a) :: st) := by
  have h1 := nI_eq ha hb
  have h2 := nI_leI ha hb
  have h3 := nI_leI hb ha
  have h4 := nI_ltI ha hb
  have h5 := nI_ltI hb ha
  refine j_icmp_eq hX tgt hd ht (fun h => kt ?_) (fun h => kf ?_) <;> (simp only [h1, h2, h3, h4, h5] at h; first | trivial | omega)
theorem j_if_ne (hX : jOK p s m args c g A cc nL own Ts) {x : Int32} {off : Int} (tgt : Nat) (hd : decode cc pc = .ok (.ifCond .ne off, 3)) (ht : (pc : Int) + off = (tgt : Int)) (kt : ¬ x = 0 → J p l e R s m args below meth c g A nL Q cells slots ws lv tgt st) (kf : x = 0 → J p l e R s m args below meth c g A nL Q cells slots ws lv (pc + 3) st) : J p l e R s m args below meth c g A nL Q cells slots ws lv pc (.int x :: st) :=
  fun H locs ls hP hD hS hl => lv_if_ne hX.1.1 hX.1.2.1 hd ht (fun h => kt h H locs ls hP hD hS hl) (fun h => kf h H locs ls hP hD hS hl)
theorem j_icmp_ne (hX : jOK p s m args c g A cc nL own Ts) {x y : Int32} {off : Int} (tgt : Nat) (hd : decode cc pc = .ok (.if_icmp .ne off, 3)) (ht : (pc : Int) + off = (tgt : Int)) (kt : ¬ x = y → J p l e R s m args below meth c g A nL Q cells slots ws lv tgt st) (kf : x = y → J p l e R s m args below meth c g A nL Q cells slots ws lv (pc + 3) st) : J p l e R s m args below meth c g A nL Q cells slots ws lv pc (.int y :: .int x :: st) :=
  fun H locs ls hP hD hS hl => lv_icmp_ne hX.1.1 hX.1.2.1 hd ht (fun h => kt h H locs ls hP hD hS hl) (fun h => kf h H locs ls hP hD hS hl)
theorem j_icmp_neN (hX : jOK p s m args c g A cc nL own Ts) (a b : Nat) {off : Int} (tgt : Nat) (hd : decode cc pc = .ok (.if_icmp .ne off, 3)) (ht : (pc : Int) + off = (tgt : Int)) (ha : a < 2 ^ 31) (hb : b < 2 ^ 31) (kt : a ≠ b → J p l e R s m args below meth c g A nL Q cells slots ws lv tgt st) (kf : a = b → J p l e R s m args below meth c g A nL Q cells slots ws lv (pc + 3) st) : J p l e R s m args below meth c g A nL Q cells slots ws lv pc (.int (nI b) :: .int (nI a) :: st) := by
  have h1 := nI_eq ha hb
  have h2 := nI_leI ha hb
  have h3 := nI_leI hb ha
  have h4 := nI_ltI ha hb
  have h5 := nI_ltI hb ha
  refine j_icmp_ne hX tgt hd ht (fun h => kt ?_) (fun h => kf ?_) <;> (simp only [h1, h2, h3, h4, h5] at h; first | trivial | omega)
theorem j_if_lt (hX : jOK p s m args c g A cc nL own Ts) {x : Int32} {off : Int} (tgt : Nat) (hd : decode cc pc = .ok (.ifCond .lt off, 3)) (ht : (pc : Int) + off = (tgt : Int)) (kt : x < 0 → J p l e R s m args below meth c g A nL Q cells slots ws lv tgt st) (kf : ¬ x < 0 → J p l e R s m args below meth c g A nL Q cells slots ws lv (pc + 3) st) : J p l e R s m args below meth c g A nL Q cells slots ws lv pc (.int x :: st) :=
  fun H locs ls hP hD hS hl => lv_if_lt hX.1.1 hX.1.2.1 hd ht (fun h => kt h H locs ls hP hD hS hl) (fun h => kf h H locs ls hP hD hS hl)
theorem j_icmp_lt (hX : jOK p s m args c g A cc nL own Ts) {x y : Int32} {off : Int} (tgt : Nat) (hd : decode cc pc = .ok (.if_icmp .lt off, 3)) (ht : (pc : Int) + off = (tgt : Int)) (kt : x < y → J p l e R s m args below meth c g A nL Q cells slots ws lv tgt st) (kf : ¬ x < y → J p l e R s m args below meth c g A nL Q cells slots ws lv (pc + 3) st) : J p l e R s m args below meth c g A nL Q cells slots ws lv pc (.int y :: .int x :: st) :=
  fun H locs ls hP hD hS hl => lv_icmp_lt hX.1.1 hX.1.2.1 hd ht (fun h => kt h H locs ls hP hD hS hl) (fun h => kf h H locs ls hP hD hS hl)
theorem j_icmp_ltN (hX : jOK p s m args c g A cc nL own Ts) (a b : Nat) {off : Int} (tgt : Nat) (hd : decode cc pc = .ok (.if_icmp .lt off, 3)) (ht : (pc : Int) + off = (tgt : Int)) (ha : a < 2 ^ 31) (hb : b < 2 ^ 31) (kt : a < b → J p l e R s m args below meth c g A nL Q cells slots ws lv tgt st) (kf : b ≤ a → J p l e R s m args below meth c g A nL Q cells slots ws lv (pc + 3) st) : J p l e R s m args below meth c g A nL Q cells slots ws lv pc (.int (nI b) :: .int (nI a) :: st) := by
  have h1 := nI_eq ha hb
  have h2 := nI_leI ha hb
  have h3 := nI_leI hb ha
  have h4 := nI_ltI ha hb
  have h5 := nI_ltI hb ha
  refine j_icmp_lt hX tgt hd ht (fun h => kt ?_) (fun h => kf ?_) <;> (simp only [h1, h2, h3, h4, h5] at h; first | trivial | omega)
theorem j_if_ge (hX : jOK p s m args c g A cc nL own Ts) {x : Int32} {off : Int} (tgt : Nat) (hd : decode cc pc = .ok (.ifCond .ge off, 3)) (ht : (pc : Int) + off = (tgt : Int)) (kt : 0 ≤ x → J p l e R s m args below meth c g A nL Q cells slots ws lv tgt st) (kf : ¬ 0 ≤ x → J p l e R s m args below meth c g A nL Q cells slots ws lv (pc + 3) st) : J p l e R s m args below meth c g A nL Q cells slots ws lv pc (.int x :: st) :=
  fun H locs ls hP hD hS hl => lv_if_ge hX.1.1 hX.1.2.1 hd ht (fun h => kt h H locs ls hP hD hS hl) (fun h => kf h H locs ls hP hD hS hl)
theorem j_icmp_ge (hX : jOK p s m args c g A cc nL own Ts) {x y : Int32} {off : Int} (tgt : Nat) (hd : decode cc pc = .ok (.if_icmp .ge off, 3)) (ht : (pc : Int) + off = (tgt : Int)) (kt : y ≤ x → J p l e R s m args below meth c g A nL Q cells slots ws lv tgt st) (kf : ¬ y ≤ x → J p l e R s m args below meth c g A nL Q cells slots ws lv (pc + 3) st) : J p l e R s m args below meth c g A nL Q cells slots ws lv pc (.int y :: .int x :: st) :=
  fun H locs ls hP hD hS hl => lv_icmp_ge hX.1.1 hX.1.2.1 hd ht (fun h => kt h H locs ls hP hD hS hl) (fun h => kf h H locs ls hP hD hS hl)
theorem j_icmp_geN (hX : jOK p s m args c g A cc nL own Ts) (a b : Nat) {off : Int} (tgt : Nat) (hd : decode cc pc = .ok (.if_icmp .ge off, 3)) (ht : (pc : Int) + off = (tgt : Int)) (ha : a < 2 ^ 31) (hb : b < 2 ^ 31) (kt : b ≤ a → J p l e R s m args below meth c g A nL Q cells slots ws lv tgt st) (kf : a < b → J p l e R s m args below meth c g A nL Q cells slots ws lv (pc + 3) st) : J p l e R s m args below meth c g A nL Q cells slots ws lv pc (.int (nI b) :: .int (nI a) :: st) := by
  have h1 := nI_eq ha hb
  have h2 := nI_leI ha hb
  have h3 := nI_leI hb ha
  have h4 := nI_ltI ha hb
  have h5 := nI_ltI hb ha
  refine j_icmp_ge hX tgt hd ht (fun h => kt ?_) (fun h => kf ?_) <;> (simp only [h1, h2, h3, h4, h5] at h; first | trivial | omega)
theorem j_if_gt (hX : jOK p s m args c g A cc nL own Ts) {x : Int32} {off : Int} (tgt : Nat) (hd : decode cc pc = .ok (.ifCond .gt off, 3)) (ht : (pc : Int) + off = (tgt : Int)) (kt : 0 < x → J p l e R s m args below meth c g A nL Q cells slots ws lv tgt st) (kf : ¬ 0 < x → J p l e R s m args below meth c g A nL Q cells slots ws lv (pc + 3) st) : J p l e R s m args below meth c g A nL Q cells slots ws lv pc (.int x :: st) :=
  fun H locs ls hP hD hS hl => lv_if_gt hX.1.1 hX.1.2.1 hd ht (fun h => kt h H locs ls hP hD hS hl) (fun h => kf h H locs ls hP hD hS hl)
theorem j_icmp_gt (hX : jOK p s m args c g A cc nL own Ts) {x y : Int32} {off : Int} (tgt : Nat) (hd : decode cc pc = .ok (.if_icmp .gt off, 3)) (ht : (pc : Int) + off = (tgt : Int)) (kt : y < x → J p l e R s m args below meth c g A nL Q cells slots ws lv tgt st) (kf : ¬ y < x → J p l e R s m args below meth c g A nL Q cells slots ws lv (pc + 3) st) : J p l e R s m args below meth c g A nL Q cells slots ws lv pc (.int y :: .int x :: st) :=
  fun H locs ls hP hD hS hl => lv_icmp_gt hX.1.1 hX.1.2.1 hd ht (fun h => kt h H locs ls hP hD hS hl) (fun h => kf h H locs ls hP hD hS hl)
theorem j_icmp_gtN (hX : jOK p s m args c g A cc nL own Ts) (a b : Nat) {off : Int} (tgt : Nat) (hd : decode cc pc = .ok (.if_icmp .gt off, 3)) (ht : (pc : Int) + off = (tgt : Int)) (ha : a < 2 ^ 31) (hb : b < 2 ^ 31) (kt : b < a → J p l e R s m args below meth c g A nL Q cells slots ws lv tgt st) (kf : a ≤ b → J p l e R s m args below meth c g A nL Q cells slots ws lv (pc + 3) st) : J p l e R s m args below meth c g A nL Q cells slots ws lv pc (.int (nI b) :: .int (nI a) :: st) := by
  have h1 := nI_eq ha hb
  have h2 := nI_leI ha hb
  have h3 := nI_leI hb ha
  have h4 := nI_ltI ha hb
  have h5 := nI_ltI hb ha
  refine j_icmp_gt hX tgt hd ht (fun h => kt ?_) (fun h => kf ?_) <;> (simp only [h1, h2, h3, h4, h5] at h; first | trivial | omega)
theorem j_if_le (hX : jOK p s m args c g A cc nL own Ts) {x : Int32} {off : Int} (tgt : Nat) (hd : decode cc pc = .ok (.ifCond .le off, 3)) (ht : (pc : Int) + off = (tgt : Int)) (kt : x ≤ 0 → J p l e R s m args below meth c g A nL Q cells slots ws lv tgt st) (kf : ¬ x ≤ 0 → J p l e R s m args below meth c g A nL Q cells slots ws lv (pc + 3) st) : J p l e R s m args below meth c g A nL Q cells slots ws lv pc (.int x :: st) :=
  fun H locs ls hP hD hS hl => lv_if_le hX.1.1 hX.1.2.1 hd ht (fun h => kt h H locs ls hP hD hS hl) (fun h => kf h H locs ls hP hD hS hl)
theorem j_icmp_le (hX : jOK p s m args c g A cc nL own Ts) {x y : Int32} {off : Int} (tgt : Nat) (hd : decode cc pc = .ok (.if_icmp .le off, 3)) (ht : (pc : Int) + off = (tgt : Int)) (kt : x ≤ y → J p l e R s m args below meth c g A nL Q cells slots ws lv tgt st) (kf : ¬ x ≤ y → J p l e R s m args below meth c g A nL Q cells slots ws lv (pc + 3) st) : J p l e R s m args below meth c g A nL Q cells slots ws lv pc (.int y :: .int x :: st) :=
  fun H locs ls hP hD hS hl => lv_icmp_le hX.1.1 hX.1.2.1 hd ht (fun h => kt h H locs ls hP hD hS hl) (fun h => kf h H locs ls hP hD hS hl)
theorem j_icmp_leN (hX : jOK p s m args c g A cc nL own Ts) (a b : Nat) {off : Int} (tgt : Nat) (hd : decode cc pc = .ok (.if_icmp .le off, 3)) (ht : (pc : Int) + off = (tgt : Int)) (ha : a < 2 ^ 31) (hb : b < 2 ^ 31) (kt : a ≤ b → J p l e R s m args below meth c g A nL Q cells slots ws lv tgt st) (kf : b < a → J p l e R s m args below meth c g A nL Q cells slots ws lv (pc + 3) st) : J p l e R s m args below meth c g A nL Q cells slots ws lv pc (.int (nI b) :: .int (nI a) :: st) := by
  have h1 := nI_eq ha hb
  have h2 := nI_leI ha hb
  have h3 := nI_leI hb ha
  have h4 := nI_ltI ha hb
  have h5 := nI_ltI hb ha
  refine j_icmp_le hX tgt hd ht (fun h => kt ?_) (fun h => kf ?_) <;> (simp only [h1, h2, h3, h4, h5] at h; first | trivial | omega)
theorem j_if_eqN (hX : jOK p s m args c g A cc nL own Ts) (a : Nat) {off : Int} (tgt : Nat) (hd : decode cc pc = .ok (.ifCond .eq off, 3)) (ht : (pc : Int) + off = (tgt : Int)) (ha : a < 2 ^ 31) (kt : a = 0 → J p l e R s m args below meth c g A nL Q cells slots ws lv tgt st) (kf : a ≠ 0 → J p l e R s m args below meth c g A nL Q cells slots ws lv (pc + 3) st) : J p l e R s m args below meth c g A nL Q cells slots ws lv pc (.int (nI a) :: st) := by
  have h0 : (0 : Int32) = nI 0 := nI_0.symm
  have hb : 0 < 2 ^ 31 := by decide
  have h1 := nI_eq ha hb
  have h2 := nI_leI ha hb
  have h3 := nI_leI hb ha
  have h4 := nI_ltI ha hb
  have h5 := nI_ltI hb ha
  refine j_if_eq hX tgt hd ht (fun h => kt ?_) (fun h => kf ?_) <;> (rw [h0] at h; simp only [h1, h2, h3, h4, h5] at h; first | trivial | omega)
theorem j_if_neN (hX : jOK p s m args c g A cc nL own Ts) (a : Nat) {off : Int} (tgt : Nat) (hd : decode cc pc = .ok (.ifCond .ne off, 3)) (ht : (pc : Int) + off = (tgt : Int)) (ha : a < 2 ^ 31) (kt : a ≠ 0 → J p l e R s m args below meth c g A nL Q cells slots ws lv tgt st) (kf : a = 0 → J p l e R s m args below meth c g A nL Q cells slots ws lv (pc + 3) st) : J p l e R s m args below meth c g A nL Q cells slots ws lv pc (.int (nI a) :: st) := by
  have h0 : (0 : Int32) = nI 0 := nI_0.symm
  have hb : 0 < 2 ^ 31 := by decide
  have h1 := nI_eq ha hb
  have h2 := nI_leI ha hb
  have h3 := nI_leI hb ha
  have h4 := nI_ltI ha hb
  have h5 := nI_ltI hb ha
  refine j_if_ne hX tgt hd ht (fun h => kt ?_) (fun h => kf ?_) <;> (rw [h0] at h; simp only [h1, h2, h3, h4, h5] at h; first | trivial | omega)
theorem j_if_ltN (hX : jOK p s m args c g A cc nL own Ts) (a : Nat) {off : Int} (tgt : Nat) (hd : decode cc pc = .ok (.ifCond .lt off, 3)) (ht : (pc : Int) + off = (tgt : Int)) (ha : a < 2 ^ 31) (kt : False → J p l e R s m args below meth c g A nL Q cells slots ws lv tgt st) (kf : True → J p l e R s m args below meth c g A nL Q cells slots ws lv (pc + 3) st) : J p l e R s m args below meth c g A nL Q cells slots ws lv pc (.int (nI a) :: st) := by
  have h0 : (0 : Int32) = nI 0 := nI_0.symm
  have hb : 0 < 2 ^ 31 := by decide
  have h1 := nI_eq ha hb
  have h2 := nI_leI ha hb
  have h3 := nI_leI hb ha
  have h4 := nI_ltI ha hb
  have h5 := nI_ltI hb ha
  refine j_if_lt hX tgt hd ht (fun h => kt ?_) (fun h => kf ?_) <;> (rw [h0] at h; simp only [h1, h2, h3, h4, h5] at h; first | trivial | omega)
theorem j_if_geN (hX : jOK p s m args c g A cc nL own Ts) (a : Nat) {off : Int} (tgt : Nat) (hd : decode cc pc = .ok (.ifCond .ge off, 3)) (ht : (pc : Int) + off = (tgt : Int)) (ha : a < 2 ^ 31) (kt : True → J p l e R s m args below meth c g A nL Q cells slots ws lv tgt st) (kf : False → J p l e R s m args below meth c g A nL Q cells slots ws lv (pc + 3) st) : J p l e R s m args below meth c g A nL Q cells slots ws lv pc (.int (nI a) :: st) := by
  have h0 : (0 : Int32) = nI 0 := nI_0.symm
  have hb : 0 < 2 ^ 31 := by decide
  have h1 := nI_eq ha hb
  have h2 := nI_leI ha hb
  have h3 := nI_leI hb ha
  have h4 := nI_ltI ha hb
  have h5 := nI_ltI hb ha
  refine j_if_ge hX tgt hd ht (fun h => kt ?_) (fun h => kf ?_) <;> (rw [h0] at h; simp only [h1, h2, h3, h4, h5] at h; first | trivial | omega)
theorem j_if_gtN (hX : jOK p s m args c g A cc nL own Ts) (a : Nat) {off : Int} (tgt : Nat) (hd : decode cc pc = .ok (.ifCond .gt off, 3)) (ht : (pc : Int) + off = (tgt : Int)) (ha : a < 2 ^ 31) (kt : 0 < a → J p l e R s m args below meth c g A nL Q cells slots ws lv tgt st) (kf : a = 0 → J p l e R s m args below meth c g A nL Q cells slots ws lv (pc + 3) st) : J p l e R s m args below meth c g A nL Q cells slots ws lv pc (.int (nI a) :: st) := by
  have h0 : (0 : Int32) = nI 0 := nI_0.symm
  have hb : 0 < 2 ^ 31 := by decide
  have h1 := nI_eq ha hb
  have h2 := nI_leI ha hb
  have h3 := nI_leI hb ha
  have h4 := nI_ltI ha hb
  have h5 := nI_ltI hb ha
  refine j_if_gt hX tgt hd ht (fun h => kt ?_) (fun h => kf ?_) <;> (rw [h0] at h; simp only [h1, h2, h3, h4, h5] at h; first | trivial | omega)
theorem j_if_leN (hX : jOK p s m args c g A cc nL own Ts) (a : Nat) {off : Int} (tgt : Nat) (hd : decode cc pc = .ok (.ifCond .le off, 3)) (ht : (pc : Int) + off = (tgt : Int)) (ha : a < 2 ^ 31) (kt : a = 0 → J p l e R s m args below meth c g A nL Q cells slots ws lv tgt st) (kf : 0 < a → J p l e R s m args below meth c g A nL Q cells slots ws lv (pc + 3) st) : J p l e R s m args below meth c g A nL Q cells slots ws lv pc (.int (nI a) :: st) := by
  have h0 : (0 : Int32) = nI 0 := nI_0.symm
  have hb : 0 < 2 ^ 31 := by decide
  have h1 := nI_eq ha hb
  have h2 := nI_leI ha hb
  have h3 := nI_leI hb ha
  have h4 := nI_ltI ha hb
  have h5 := nI_ltI hb ha
  refine j_if_le hX tgt hd ht (fun h => kt ?_) (fun h => kf ?_) <;> (rw [h0] at h; simp only [h1, h2, h3, h4, h5] at h; first | trivial | omega)
theorem j_goto (hX : jOK p s m args c g A cc nL own Ts) {off : Int} (tgt : Nat) (hd : decode cc pc = .ok (.goto off, 3)) (ht : (pc : Int) + off = (tgt : Int)) (k : J p l e R s m args below meth c g A nL Q cells slots ws lv tgt st) : J p l e R s m args below meth c g A nL Q cells slots ws lv pc st :=
  fun H locs ls hP hD hS hl => lv_goto hX.1.1 hX.1.2.1 hd ht (k H locs ls hP hD hS hl)
theorem j_tableOut (hX : jOK p s m args c g A cc nL own Ts) {dflt lo hi : Int} {offs : Array Int} {len : Nat} {x : Int32} (tgt : Nat) (hd : decode cc pc = .ok (.tableswitch dflt lo hi offs, len)) (h : x.toInt < lo ∨ hi < x.toInt) (ht : (pc : Int) + dflt = (tgt : Int)) (k : J p l e R s m args below meth c g A nL Q cells slots ws lv tgt st) : J p l e R s m args below meth c g A nL Q cells slots ws lv pc (.int x :: st) :=
  fun H locs ls hP hD hS hl => lv_tableOut hX.1.1 hX.1.2.1 hd h ht (k H locs ls hP hD hS hl)
theorem j_tableIn (hX : jOK p s m args c g A cc nL own Ts) {dflt lo hi : Int} {offs : Array Int} {len : Nat} {x : Int32} {off : Int} (tgt : Nat) (hd : decode cc pc = .ok (.tableswitch dflt lo hi offs, len)) (h1 : ¬ x.toInt < lo) (h2 : ¬ hi < x.toInt) (ho : offs[(x.toInt - lo).toNat]? = some off) (ht : (pc : Int) + off = (tgt : Int)) (k : J p l e R s m args below meth c g A nL Q cells slots ws lv tgt st) : J p l e R s m args below meth c g A nL Q cells slots ws lv pc (.int x :: st) :=
  fun H locs ls hP hD hS hl => lv_tableIn hX.1.1 hX.1.2.1 hd h1 h2 ho ht (k H locs ls hP hD hS hl)
theorem j_perm (lv' : List (Nat × Value)) (ks : List Nat) (h : lv_pick lv ks = lv') (k : J p l e R s m args below meth c g A nL Q cells slots ws lv' pc st) : J p l e R s m args below meth c g A nL Q cells slots ws lv pc st :=
  fun H locs ls hP hD hS hl => k H locs ls hP hD hS (lv_sub hl ks h)
theorem j_w (ws' : va_W) (h : ws = ws') (k : J p l e R s m args below meth c g A nL Q cells slots ws' lv pc st) : J p l e R s m args below meth c g A nL Q cells slots ws lv pc st := h ▸ k
theorem j_pc (pc' : Nat) (h : pc = pc') (k : J p l e R s m args below meth c g A nL Q cells slots ws lv pc' st) : J p l e R s m args below meth c g A nL Q cells slots ws lv pc st := h ▸ k
theorem j_lv (lv' : List (Nat × Value)) (h : lv = lv') (k : J p l e R s m args below meth c g A nL Q cells slots ws lv' pc st) : J p l e R s m args below meth c g A nL Q cells slots ws lv pc st := h ▸ k
theorem j_st (st' : List Value) (h : st = st') (k : J p l e R s m args below meth c g A nL Q cells slots ws lv pc st') : J p l e R s m args below meth c g A nL Q cells slots ws lv pc st := h ▸ k
theorem j_topi {x : Int32} (k : ∀ y : Int32, y = x → J p l e R s m args below meth c g A nL Q cells slots ws lv pc (.int y :: st)) : J p l e R s m args below meth c g A nL Q cells slots ws lv pc (.int x :: st) := k x rfl
theorem j_topl {x : Int64} (k : ∀ y : Int64, y = x → J p l e R s m args below meth c g A nL Q cells slots ws lv pc (.long y :: st)) : J p l e R s m args below meth c g A nL Q cells slots ws lv pc (.long x :: st) := k x rfl
theorem j_get (hX : jOK p s m args c g A cc nL own Ts) {C : String} {T : u_T} {N index : Nat} {a : Nat} {fs : List Value} {v : Value} {ref : String} (hin : ∀ w ∈ u_ws C T N, w ∈ Ts) (ci q0 k : Nat) (hc : classes[ci]? = some (C, T, N)) (he : ws[q0]? = some (a, .inr (ci, fs))) (hk : k < N) (hm : Cond.fieldLink own index ref (T k).2.1 (T k).2.2.1 ∈ Ts) (hr : (T k).1 = ref) (hv : fs[k]? = some v) (hd : decode cc pc = .ok (.getfield index, 3)) (kk : J p l e R s m args below meth c g A nL Q cells slots ws lv (pc + 3) (v :: st)) : J p l e R s m args below meth c g A nL Q cells slots ws lv pc (.ref a :: st) :=
  fun H locs ls hP hD hS hl => va_get hX.1.1 hX.1.2.1 hX.1.2.2.2.2 hin hX.1.2.2.2.1 hX.2.1 hP q0 he hc k hk (hX.1.2.2.2.2 _ hm) (fun x h9 => hr ▸ h9) hv hd (kk H locs ls hP hD hS hl)
theorem j_gete (hX : jOK p s m args c g A cc nL own Ts) {C : String} {T : u_T} {N index : Nat} {a : Nat} {fs : List Value} {x : Int32} {ref : String} (y : Int32) (hin : ∀ w ∈ u_ws C T N, w ∈ Ts) (ci q0 k : Nat) (hc : classes[ci]? = some (C, T, N)) (he : ws[q0]? = some (a, .inr (ci, fs))) (hk : k < N) (hm : Cond.fieldLink own index ref (T k).2.1 (T k).2.2.1 ∈ Ts) (hr : (T k).1 = ref) (hv : fs[k]? = some (.int x)) (hy : x = y) (hd : decode cc pc = .ok (.getfield index, 3)) (kk : J p l e R s m args below meth c g A nL Q cells slots ws lv (pc + 3) (.int y :: st)) : J p l e R s m args below meth c g A nL Q cells slots ws lv pc (.ref a :: st) := j_get hX hin ci q0 k hc he hk hm hr (hy ▸ hv) hd kk
theorem j_topeq (x y : Int32) (h : x = y) (k : J p l e R s m args below meth c g A nL Q cells slots ws lv pc (.int y :: st)) : J p l e R s m args below meth c g A nL Q cells slots ws lv pc (.int x :: st) := h ▸ k
theorem j_topeql (x y : Int64) (h : x = y) (k : J p l e R s m args below meth c g A nL Q cells slots ws lv pc (.long y :: st)) : J p l e R s m args below meth c g A nL Q cells slots ws lv pc (.long x :: st) := h ▸ k
theorem i8_i8 (x : Int32) : i8 (i8 x) = i8 x := (vp_nar_byte (i8 x)).symm.trans (pk_vb x)
theorem j_put (hX : jOK p s m args c g A cc nL own Ts) {C : String} {T : u_T} {N index : Nat} {a : Nat} {fs : List Value} {v : Value} {ref : String} {ty : FieldType} (hin : ∀ w ∈ u_ws C T N, w ∈ Ts) (ty0 : Nat → FieldType) (hty : ∀ k, k < N → parseFieldDescriptor (T k).2.2.1 = some (ty0 k)) (hnm : ∀ a, a < N → ∀ b, b < N → a ≠ b → (T a).2.1 ≠ (T b).2.1) (ci q0 k : Nat) (hc : classes[ci]? = some (C, T, N)) (he : ws[q0]? = some (a, .inr (ci, fs))) (hk : k < N) (hm : Cond.fieldLink own index ref (T k).2.1 (T k).2.2.1 ∈ Ts) (hr : (T k).1 = ref) (hfin : (T k).2.2.2 = false) (hty1 : ty0 k = ty) (hn : narrow ty v = v) (hfit : fits ty v = true) (hl0 : k < fs.length) (ws' : va_W) (hws : ws.set q0 (a, .inr (ci, fs.set k v)) = ws') (hd : decode cc pc = .ok (.putfield index, 3)) (kk : J p l e R s m args below meth c g A nL Q cells slots ws' lv (pc + 3) st) : J p l e R s m args below meth c g A nL Q cells slots ws lv pc (v :: .ref a :: st) :=
  fun H locs ls hP hD hS hl => va_put hX.1.1 hX.1.2.1 hX.1.2.2.2.2 hin ty0 hty hnm hX.1.2.2.2.1 hX.2.1 hP hD hS q0 he hc k hk (hX.1.2.2.2.2 _ hm) (fun x h9 => hr ▸ h9) hfin ((hty k hk).trans (congrArg some hty1)) hn hfit hl0 hd (fun H1 locs1 hP1 hD1 hS1 => kk H1 locs1 ls (hws ▸ hP1) (hws ▸ hD1) hS1 hl)
theorem j_iald (hX : jOK p s m args c g A cc nL own Ts) {a n : Nat} {f : Nat → Int32} {i : Int32} (q0 : Nat) (he : ws[q0]? = some (iA g a n f)) (hi : vp_in i n) (hd : decode cc pc = .ok (.iaload, 1)) (kk : J p l e R s m args below meth c g A nL Q cells slots ws lv (pc + 1) (.int (f i.toNatClampNeg) :: st)) : J p l e R s m args below meth c g A nL Q cells slots ws lv pc (.int i :: .ref a :: st) :=
  fun H locs ls hP hD hS hl => va_iald hX.1.1 hX.1.2.1 hX.2.1 hP q0 1 he rfl hi hd (kk H locs ls hP hD hS hl)
theorem j_ialdN (hX : jOK p s m args c g A cc nL own Ts) {a n : Nat} {f : Nat → Int32} (q0 i : Nat) (he : ws[q0]? = some (iA g a n f)) (hi : i < n) (hn : n < 2 ^ 31) (hd : decode cc pc = .ok (.iaload, 1)) (kk : J p l e R s m args below meth c g A nL Q cells slots ws lv (pc + 1) (.int (f i) :: st)) : J p l e R s m args below meth c g A nL Q cells slots ws lv pc (.int (nI i) :: .ref a :: st) := by
  refine j_iald hX q0 he (vp_in_nI hi hn) hd ?_
  rw [nI_clamp (Nat.lt_trans hi hn)]
  exact kk
theorem j_bald (hX : jOK p s m args c g A cc nL own Ts) {a n : Nat} {f : Nat → Int32} {i : Int32} (q0 : Nat) (he : ws[q0]? = some (bA g a n f)) (hi : vp_in i n) (hd : decode cc pc = .ok (.baload, 1)) (kk : J p l e R s m args below meth c g A nL Q cells slots ws lv (pc + 1) (.int (f i.toNatClampNeg) :: st)) : J p l e R s m args below meth c g A nL Q cells slots ws lv pc (.int i :: .ref a :: st) :=
  fun H locs ls hP hD hS hl => va_bald hX.1.1 hX.1.2.1 hX.2.1 hP q0 0 he rfl hi hd (kk H locs ls hP hD hS hl)
theorem j_baldN (hX : jOK p s m args c g A cc nL own Ts) {a n : Nat} {f : Nat → Int32} (q0 i : Nat) (he : ws[q0]? = some (bA g a n f)) (hi : i < n) (hn : n < 2 ^ 31) (hd : decode cc pc = .ok (.baload, 1)) (kk : J p l e R s m args below meth c g A nL Q cells slots ws lv (pc + 1) (.int (f i) :: st)) : J p l e R s m args below meth c g A nL Q cells slots ws lv pc (.int (nI i) :: .ref a :: st) := by
  refine j_bald hX q0 he (vp_in_nI hi hn) hd ?_
  rw [nI_clamp (Nat.lt_trans hi hn)]
  exact kk
theorem j_zald (hX : jOK p s m args c g A cc nL own Ts) {a n : Nat} {f : Nat → Int32} {i : Int32} (q0 : Nat) (he : ws[q0]? = some (zA g a n f)) (hi : vp_in i n) (hd : decode cc pc = .ok (.baload, 1)) (kk : J p l e R s m args below meth c g A nL Q cells slots ws lv (pc + 1) (.int (f i.toNatClampNeg) :: st)) : J p l e R s m args below meth c g A nL Q cells slots ws lv pc (.int i :: .ref a :: st) :=
  fun H locs ls hP hD hS hl => va_zald hX.1.1 hX.1.2.1 hX.2.1 hP q0 3 he rfl hi hd (kk H locs ls hP hD hS hl)
theorem j_zaldN (hX : jOK p s m args c g A cc nL own Ts) {a n : Nat} {f : Nat → Int32} (q0 i : Nat) (he : ws[q0]? = some (zA g a n f)) (hi : i < n) (hn : n < 2 ^ 31) (hd : decode cc pc = .ok (.baload, 1)) (kk : J p l e R s m args below meth c g A nL Q cells slots ws lv (pc + 1) (.int (f i) :: st)) : J p l e R s m args below meth c g A nL Q cells slots ws lv pc (.int (nI i) :: .ref a :: st) := by
  refine j_zald hX q0 he (vp_in_nI hi hn) hd ?_
  rw [nI_clamp (Nat.lt_trans hi hn)]
  exact kk
theorem j_lald (hX : jOK p s m args c g A cc nL own Ts) {a n : Nat} {f : Nat → Int64} {i : Int32} (q0 : Nat) (he : ws[q0]? = some (lA g a n f)) (hi : vp_in i n) (hd : decode cc pc = .ok (.laload, 1)) (kk : J p l e R s m args below meth c g A nL Q cells slots ws lv (pc + 1) (.long (f i.toNatClampNeg) :: st)) : J p l e R s m args below meth c g A nL Q cells slots ws lv pc (.int i :: .ref a :: st) :=
  fun H locs ls hP hD hS hl => va_lald hX.1.1 hX.1.2.1 hX.2.1 hP q0 2 he rfl hi hd (kk H locs ls hP hD hS hl)
theorem j_laldN (hX : jOK p s m args c g A cc nL own Ts) {a n : Nat} {f : Nat → Int64} (q0 i : Nat) (he : ws[q0]? = some (lA g a n f)) (hi : i < n) (hn : n < 2 ^ 31) (hd : decode cc pc = .ok (.laload, 1)) (kk : J p l e R s m args below meth c g A nL Q cells slots ws lv (pc + 1) (.long (f i) :: st)) : J p l e R s m args below meth c g A nL Q cells slots ws lv pc (.int (nI i) :: .ref a :: st) := by
  refine j_lald hX q0 he (vp_in_nI hi hn) hd ?_
  rw [nI_clamp (Nat.lt_trans hi hn)]
  exact kk
theorem j_iast (hX : jOK p s m args c g A cc nL own Ts) {a n : Nat} {f : Nat → Int32} {i : Int32} {x : Int32} (q0 : Nat) (he : ws[q0]? = some (iA g a n f)) (hi : vp_in i n) (ws' : va_W) (hws : ws.set q0 (iA g a n (upd f i.toNatClampNeg x)) = ws') (hd : decode cc pc = .ok (.iastore, 1)) (kk : J p l e R s m args below meth c g A nL Q cells slots ws' lv (pc + 1) st) : J p l e R s m args below meth c g A nL Q cells slots ws lv pc (.int x :: .int i :: .ref a :: st) :=
  fun H locs ls hP hD hS hl => va_iast hX.1.1 hX.1.2.1 hX.2.1 hP hD hS q0 1 he rfl hi hd (fun H1 locs1 hP1 hD1 hS1 => kk H1 locs1 ls (hws ▸ hP1) (hws ▸ hD1) hS1 hl)
theorem j_iastN (hX : jOK p s m args c g A cc nL own Ts) {a n : Nat} {f : Nat → Int32} {x : Int32} (q0 i : Nat) (he : ws[q0]? = some (iA g a n f)) (hi : i < n) (hn : n < 2 ^ 31) (ws' : va_W) (hws : ws.set q0 (iA g a n (upd f i x)) = ws') (hd : decode cc pc = .ok (.iastore, 1)) (kk : J p l e R s m args below meth c g A nL Q cells slots ws' lv (pc + 1) st) : J p l e R s m args below meth c g A nL Q cells slots ws lv pc (.int x :: .int (nI i) :: .ref a :: st) := by
  refine j_iast hX q0 he (vp_in_nI hi hn) ws' ?_ hd kk
  rw [nI_clamp (Nat.lt_trans hi hn)]
  exact hws
theorem j_bast (hX : jOK p s m args c g A cc nL own Ts) {a n : Nat} {f : Nat → Int32} {i : Int32} {x : Int32} (q0 : Nat) (he : ws[q0]? = some (bA g a n f)) (hi : vp_in i n) (ws' : va_W) (hws : ws.set q0 (bA g a n (upd f i.toNatClampNeg (vp_nar .byte x))) = ws') (hd : decode cc pc = .ok (.bastore, 1)) (kk : J p l e R s m args below meth c g A nL Q cells slots ws' lv (pc + 1) st) : J p l e R s m args below meth c g A nL Q cells slots ws lv pc (.int x :: .int i :: .ref a :: st) :=
  fun H locs ls hP hD hS hl => va_bast hX.1.1 hX.1.2.1 hX.2.1 hP hD hS q0 0 he rfl hi hd (fun H1 locs1 hP1 hD1 hS1 => kk H1 locs1 ls (hws ▸ hP1) (hws ▸ hD1) hS1 hl)
theorem j_bastN (hX : jOK p s m args c g A cc nL own Ts) {a n : Nat} {f : Nat → Int32} {x : Int32} (q0 i : Nat) (he : ws[q0]? = some (bA g a n f)) (hi : i < n) (hn : n < 2 ^ 31) (ws' : va_W) (hws : ws.set q0 (bA g a n (upd f i (i8 x))) = ws') (hd : decode cc pc = .ok (.bastore, 1)) (kk : J p l e R s m args below meth c g A nL Q cells slots ws' lv (pc + 1) st) : J p l e R s m args below meth c g A nL Q cells slots ws lv pc (.int x :: .int (nI i) :: .ref a :: st) := by
  refine j_bast hX q0 he (vp_in_nI hi hn) ws' ?_ hd kk
  rw [nI_clamp (Nat.lt_trans hi hn)]
  rw [vp_nar_byte]
  exact hws
theorem j_zast (hX : jOK p s m args c g A cc nL own Ts) {a n : Nat} {f : Nat → Int32} {i : Int32} {x : Int32} (q0 : Nat) (he : ws[q0]? = some (zA g a n f)) (hi : vp_in i n) (ws' : va_W) (hws : ws.set q0 (zA g a n (upd f i.toNatClampNeg (vp_nar .boolean x))) = ws') (hd : decode cc pc = .ok (.bastore, 1)) (kk : J p l e R s m args below meth c g A nL Q cells slots ws' lv (pc + 1) st) : J p l e R s m args below meth c g A nL Q cells slots ws lv pc (.int x :: .int i :: .ref a :: st) :=
  fun H locs ls hP hD hS hl => va_zast hX.1.1 hX.1.2.1 hX.2.1 hP hD hS q0 3 he rfl hi hd (fun H1 locs1 hP1 hD1 hS1 => kk H1 locs1 ls (hws ▸ hP1) (hws ▸ hD1) hS1 hl)
theorem j_zastN (hX : jOK p s m args c g A cc nL own Ts) {a n : Nat} {f : Nat → Int32} {x : Int32} (q0 i : Nat) (he : ws[q0]? = some (zA g a n f)) (hi : i < n) (hn : n < 2 ^ 31) (ws' : va_W) (hws : ws.set q0 (zA g a n (upd f i (vp_nar .boolean x))) = ws') (hd : decode cc pc = .ok (.bastore, 1)) (kk : J p l e R s m args below meth c g A nL Q cells slots ws' lv (pc + 1) st) : J p l e R s m args below meth c g A nL Q cells slots ws lv pc (.int x :: .int (nI i) :: .ref a :: st) := by
  refine j_zast hX q0 he (vp_in_nI hi hn) ws' ?_ hd kk
  rw [nI_clamp (Nat.lt_trans hi hn)]
  exact hws
theorem j_last (hX : jOK p s m args c g A cc nL own Ts) {a n : Nat} {f : Nat → Int64} {i : Int32} {x : Int64} (q0 : Nat) (he : ws[q0]? = some (lA g a n f)) (hi : vp_in i n) (ws' : va_W) (hws : ws.set q0 (lA g a n (vp_updL f i.toNatClampNeg x)) = ws') (hd : decode cc pc = .ok (.lastore, 1)) (kk : J p l e R s m args below meth c g A nL Q cells slots ws' lv (pc + 1) st) : J p l e R s m args below meth c g A nL Q cells slots ws lv pc (.long x :: .int i :: .ref a :: st) :=
  fun H locs ls hP hD hS hl => va_last hX.1.1 hX.1.2.1 hX.2.1 hP hD hS q0 2 he rfl hi hd (fun H1 locs1 hP1 hD1 hS1 => kk H1 locs1 ls (hws ▸ hP1) (hws ▸ hD1) hS1 hl)
theorem j_lastN (hX : jOK p s m args c g A cc nL own Ts) {a n : Nat} {f : Nat → Int64} {x : Int64} (q0 i : Nat) (he : ws[q0]? = some (lA g a n f)) (hi : i < n) (hn : n < 2 ^ 31) (ws' : va_W) (hws : ws.set q0 (lA g a n (vp_updL f i x)) = ws') (hd : decode cc pc = .ok (.lastore, 1)) (kk : J p l e R s m args below meth c g A nL Q cells slots ws' lv (pc + 1) st) : J p l e R s m args below meth c g A nL Q cells slots ws lv pc (.long x :: .int (nI i) :: .ref a :: st) := by
  refine j_last hX q0 he (vp_in_nI hi hn) ws' ?_ hd kk
  rw [nI_clamp (Nat.lt_trans hi hn)]
  exact hws
theorem j_bast8 (hX : jOK p s m args c g A cc nL own Ts) {a n : Nat} {f : Nat → Int32} {x : Int32} (q0 i : Nat) (he : ws[q0]? = some (bA g a n f)) (hi : i < n) (hn : n < 2 ^ 31) (ws' : va_W) (hws : ws.set q0 (bA g a n (upd f i (i8 x))) = ws') (hd : decode cc pc = .ok (.bastore, 1)) (kk : J p l e R s m args below meth c g A nL Q cells slots ws' lv (pc + 1) st) : J p l e R s m args below meth c g A nL Q cells slots ws lv pc (.int (i8 x) :: .int (nI i) :: .ref a :: st) := j_bastN hX q0 i he hi hn ws' (by rw [i8_i8]; exact hws) hd kk
theorem j_alen (hX : jOK p s m args c g A cc nL own Ts) {a : Nat} {cA : ClassId} {x : vp_A} {ty : FieldType} (v : Int32) (q0 t0 : Nat) (he : ws[q0]? = some (a, .inl (cA, x))) (ht : (jT g)[t0]? = some (cA, ty)) (hv : Int32.ofNat x.1 = v) (hd : decode cc pc = .ok (.arraylength, 1)) (kk : J p l e R s m args below meth c g A nL Q cells slots ws lv (pc + 1) (.int v :: st)) : J p l e R s m args below meth c g A nL Q cells slots ws lv pc (.ref a :: st) :=
  fun H locs ls hP hD hS hl => va_alen hX.1.1 hX.1.2.1 hX.2.1 hP q0 t0 he ht hv hd (kk H locs ls hP hD hS hl)
def sT (s : State) (A : Nat → Prop) (ty : FieldType) (N : Nat) (f : Nat → Value) (t : Nat) : Prop := va_T ty t N f A s s.heap
theorem j_gets (hX : jOK p s m args c g A cc nL own Ts) {C n d ref : String} {ty : FieldType} {N index : Nat} {f : Nat → Value} (hs : sS C n d ty N f A s s.heap) (hm : Cond.fieldLink own index ref n d ∈ Ts) (hr : C = ref) (hd : decode cc pc = .ok (.getstatic index, 3)) (kk : ∀ t : Nat, sT s A ty N f t → J p l e R s m args below meth c g A nL Q cells slots ws lv (pc + 3) (.ref t :: st)) : J p l e R s m args below meth c g A nL Q cells slots ws lv pc st :=
  fun H locs ls hP hD hS hl => hs.elim fun t h => va_gets hX.1.1 hX.1.2.1 h.1 hS hX.1.2.2.2.1 (hX.1.2.2.2.2 _ hm) (fun x h9 => hr ▸ h9) hd (kk t h.2 H locs ls hP hD hS hl)
theorem j_tiN (hX : jOK p s m args c g A cc nL own Ts) {t N : Nat} {f : Nat → Value} (i : Nat) (v : Value) (hT : sT s A .int N f t) (hi : i < N) (hN : N < 2 ^ 31) (hv : f i = v) (hd : decode cc pc = .ok (.iaload, 1)) (kk : J p l e R s m args below meth c g A nL Q cells slots ws lv (pc + 1) (v :: st)) : J p l e R s m args below meth c g A nL Q cells slots ws lv pc (.int (nI i) :: .ref t :: st) :=
  fun H locs ls hP hD hS hl => va_ti hX.1.1 hX.1.2.1 hT hS (vp_in_nI hi hN) (by rw [nI_clamp (Nat.lt_trans hi hN)]; exact hv) hd (kk H locs ls hP hD hS hl)
theorem j_tlN (hX : jOK p s m args c g A cc nL own Ts) {t N : Nat} {f : Nat → Value} (i : Nat) (v : Value) (hT : sT s A .long N f t) (hi : i < N) (hN : N < 2 ^ 31) (hv : f i = v) (hd : decode cc pc = .ok (.laload, 1)) (kk : J p l e R s m args below meth c g A nL Q cells slots ws lv (pc + 1) (v :: st)) : J p l e R s m args below meth c g A nL Q cells slots ws lv pc (.int (nI i) :: .ref t :: st) :=
  fun H locs ls hP hD hS hl => va_tl hX.1.1 hX.1.2.1 hT hS (vp_in_nI hi hN) (by rw [nI_clamp (Nat.lt_trans hi hN)]; exact hv) hd (kk H locs ls hP hD hS hl)
theorem jsub {D : va_G} {cl : List vw_C} {is : List Nat} {W0 w : va_W} {H : Heap} (hP : va_P D cl w H) (hC : is.map (fun i => w[i]?) = W0.map some) : va_P D cl W0 H := fun k q hq => by
  have h1 : (is.map (fun i => w[i]?))[k]? = some (some q) := by rw [hC, List.getElem?_map, hq]; rfl
  rw [List.getElem?_map] at h1
  cases hi : is[k]? with
  | none => rw [hi] at h1; cases h1
  | some i => rw [hi] at h1; exact hP i q (Option.some.inj h1)
/-- behind a call: the end of the callee's contract -/
theorem jcall {S : Type} {v : S → Option Value} {P : S → Prop} {W0 : va_W} {W1 : S → va_W} {H : Heap} {locs : List Loc} {ls : Array Slot} {rest st0 : List Value} {sz : Nat} {a : Array Value} {free : Addr → Prop} (hr : va_Run p l e R s m args below meth c H locs cells slots 0 0 (F0 m pc ls st0) rest (jE g W0 v P W1 sz a) free) (hS : va_S A s.heap H locs) (hA : ∀ q, q < H.size → va_A W0 sz q → A q) (hf : ∀ q, free q → A q)
    (kk : ∀ (u : S) (H1 : Heap) (locs1 : List Loc), P u → va_P g.1 classes (W1 u) H1 → (∀ q : Nat, q < H.size → ¬ va_A W0 sz q → H1[q]? = H[q]?) → va_S A s.heap H1 locs1 → W p l e R s m args below meth c H1 locs1 cells slots Q (F0 m (pc + 3) ls ((v u).toList ++ rest))) : W p l e R s m args below meth c H locs cells slots Q (F0 m pc ls st0) := by
  intro T hT X
  obtain ⟨vv, st₀, t, T', L, h0, X', hL, e1, e2, ⟨⟨u, hv, hp, hb⟩, hz, hk⟩, stp⟩ := hr T hT X
  cases hv
  rw [h0] at hz hk
  obtain ⟨t2, a1, b1⟩ := kk u T'.heap (locs ++ L) hp (by rw [e1]; exact hb) (fun q h1 h2 => by rw [e1]; exact hk q h1 h2)
    ⟨Nat.le_trans hS.1 (by rw [e1]; exact hz), fun q h1 h2 => by rw [e1, hk q (Nat.lt_of_lt_of_le h1 hS.1) (fun z => h2 (hA q (Nat.lt_of_lt_of_le h1 hS.1) z))]; exact hS.2.1 q h1 h2, fun q hq => by
      rcases List.mem_append.mp hq with h | h
      · exact hS.2.2 q h
      · exact hf _ (hL q h)⟩ T' rfl X'
  exact ⟨t2, stp t2 a1, b1⟩
/-- the static arrays, as a callee sees them -/
theorem sAll.at_call {A B : Nat → Prop} {U : State} {H0 H : Heap} {locs : List Loc} (h : sAll A U H0) (hS : va_S A H0 H locs) (hB : ∀ q, B q → A q) : sAll B U H := (h.kept (fun a h1 h2 => hS.2.1 a h1 h2)).narrow hB
theorem j_callV {S : Type} (hX : jOK p s m args c g A cc nL own Ts) {y : MethodName} {wsC ws' : List Cond} {rm : Room} {As : List Value} {W0 : va_W} {v : S → Option Value} {P : S → Prop} {W1 : S → va_W} {b : Nat} {bytes : ByteArray} {maxL index : Nat} {ret : Option FieldType} {C : String} (n : Nat) (hc : jC l g y wsC rm (.ref b :: As) W0 v P W1) (hG : GoodIn Ts (wsV own index C y wsC)) (hd0 : y.cls = C ∧ y.cls ≠ "java/lang/invoke/MethodHandle" ∧ y.cls ≠ "java/lang/invoke/VarHandle" ∧ (parseMethodDescriptor y.desc).map (fun d => d.parameters.length) = some n) (hw : wsC = Cond.code y bytes maxL ret :: ws') (hrm : rm.cells = 0 ∧ rm.slots = 0) (hR : rm.frames + 1 ≤ R.frames ∧ 8 + (maxL + 11) + rm.locals ≤ R.locals) (ci q0 : Nat) {T : u_T} {N : Nat} {fs : List Value} (hci : classes[ci]? = some (C, T, N)) (hq0 : ws[q0]? = some (b, .inr (ci, fs))) (isC : List Nat) (hC : isC.map (fun i => ws[i]?) = W0.map some) (hnd : va_nd isC = true) (ha : ∀ u, (W1 u).map Prod.fst = W0.map Prod.fst) (hn : As.length = n) (rest : List Value) (hst : st = As.reverse ++ .ref b :: rest) (hro : (rest.map fun v => v.category).sum ≤ 8) (hf : cells ≤ R.cells ∧ slots ≤ R.slots) (hd : decode cc pc = .ok (.invokevirtual index, 3)) (kk : ∀ u : S, P u → J p l e R s m args below meth c g A nL Q cells slots (jset ws isC (W1 u)) lv (pc + 3) ((v u).toList ++ rest)) : J p l e R s m args below meth c g A nL Q cells slots ws lv pc st := by
  intro H locs ls hP hD hS hl
  have hPc : va_P g.1 classes W0 H := jsub hP hC
  have hDc : va_D A W0 := hD.sub isC hnd hC
  have hFc := va_free (wc := W0) hD hS hX.2.2.1 isC hC
  refine jcall (va_runV (As := As) (rest := rest) (bytes := bytes) (maxL := maxL) (ret := ret) hX.1 (hc H.size) (cwV n hX.1.2.2.2.2 hG hw hrm.1 hrm.2 hd0 hR) ⟨jP.blind, va_recv (q := (C, T, N)) hX.2.1 hP hci hq0, fun U hU hW => ⟨rfl, by rw [hU], by rw [hU]; exact hPc, va_K.moved hW.alike hX.2.1, hDc.weaken (fun _ _ _ _ => trivial), by rw [hU]; exact sAll.moved hW.alike (hX.2.2.2.at_call hS hFc)⟩⟩ rfl hn hl.1 hst (lv_room hro) hd ⟨hf.1, hf.2⟩) hS (fun q _ h => hFc q h) hFc (fun u H1 locs1 hu hP1 hk hS1 => ?_)
  obtain ⟨h1, h2⟩ := jset_ok hP hD hC (ha u) hk hP1
  exact kk u hu H1 locs1 ls h1 h2 hS1 hl
theorem j_callS {S : Type} (hX : jOK p s m args c g A cc nL own Ts) {y : MethodName} {wsC ws' : List Cond} {rm : Room} {As : List Value} {W0 : va_W} {v : S → Option Value} {P : S → Prop} {W1 : S → va_W} {b : Nat} {bytes : ByteArray} {maxL index : Nat} {ret : Option FieldType} {C : String} (n : Nat) (hc : jC l g y wsC rm (As) W0 v P W1) (hG : GoodIn Ts (va_wsS own index y wsC)) (hd0 : y.cls ≠ "java/lang/invoke/MethodHandle" ∧ y.cls ≠ "java/lang/invoke/VarHandle" ∧ (parseMethodDescriptor y.desc).map (fun d => d.parameters.length) = some n) (hw : wsC = Cond.code y bytes maxL ret :: ws') (hrm : rm.cells = 0 ∧ rm.slots = 0) (hR : rm.frames + 1 ≤ R.frames ∧ 8 + (maxL + 11) + rm.locals ≤ R.locals) (isC : List Nat) (hC : isC.map (fun i => ws[i]?) = W0.map some) (hnd : va_nd isC = true) (ha : ∀ u, (W1 u).map Prod.fst = W0.map Prod.fst) (hn : As.length = n) (rest : List Value) (hst : st = As.reverse ++ rest) (hro : (rest.map fun v => v.category).sum ≤ 8) (hf : cells ≤ R.cells ∧ slots ≤ R.slots) (hd : decode cc pc = .ok (.invokestatic index, 3)) (kk : ∀ u : S, P u → J p l e R s m args below meth c g A nL Q cells slots (jset ws isC (W1 u)) lv (pc + 3) ((v u).toList ++ rest)) : J p l e R s m args below meth c g A nL Q cells slots ws lv pc st := by
  intro H locs ls hP hD hS hl
  have hPc : va_P g.1 classes W0 H := jsub hP hC
  have hDc : va_D A W0 := hD.sub isC hnd hC
  have hFc := va_free (wc := W0) hD hS hX.2.2.1 isC hC
  refine jcall (va_runS (As := As) (rest := rest) (bytes := bytes) (maxL := maxL) (ret := ret) hX.1 (hc H.size) (va_cwS n hX.1.2.2.2.2 hG hw hrm.1 hrm.2 hd0 hR) ⟨jP.blind, fun U hU hW => ⟨rfl, by rw [hU], by rw [hU]; exact hPc, va_K.moved hW.alike hX.2.1, hDc.weaken (fun _ _ _ _ => trivial), by rw [hU]; exact sAll.moved hW.alike (hX.2.2.2.at_call hS hFc)⟩⟩ rfl hn hl.1 hst (lv_room hro) hd ⟨hf.1, hf.2⟩) hS (fun q _ h => hFc q h) hFc (fun u H1 locs1 hu hP1 hk hS1 => ?_)
  obtain ⟨h1, h2⟩ := jset_ok hP hD hC (ha u) hk hP1
  exact kk u hu H1 locs1 ls h1 h2 hS1 hl
theorem j_callA {S : Type} (hX : jOK p s m args c g A cc nL own Ts) {y : MethodName} {wsC ws' : List Cond} {rm : Room} {As : List Value} {W0 : va_W} {v : S → Option Value} {P : S → Prop} {W1 : S → va_W} {b : Nat} {bytes : ByteArray} {maxL index : Nat} {ret : Option FieldType} {C : String} (n : Nat) (hc : jC l g y wsC rm (.ref b :: As) W0 v P W1) {owner : String} {x : MethodName} (hG : GoodIn Ts (va_wsU own index C owner x y wsC)) (hx : (⟨owner, x.name, x.desc⟩ : MethodName) = yHd) (hd0 : owner ≠ "java/lang/invoke/MethodHandle" ∧ owner ≠ "java/lang/invoke/VarHandle" ∧ (parseMethodDescriptor x.desc).map (fun d => d.parameters.length) = some n) (hw : wsC = Cond.code y bytes maxL ret :: ws') (hrm : rm.cells = 0 ∧ rm.slots = 0) (hR : rm.frames + 1 ≤ R.frames ∧ 8 + (maxL + 11) + rm.locals ≤ R.locals) (ci q0 : Nat) {T : u_T} {N : Nat} {fs : List Value} (hci : classes[ci]? = some (C, T, N)) (hq0 : ws[q0]? = some (b, .inr (ci, fs))) (isC : List Nat) (hC : isC.map (fun i => ws[i]?) = W0.map some) (hnd : va_nd isC = true) (ha : ∀ u, (W1 u).map Prod.fst = W0.map Prod.fst) (hn : As.length = n) (rest : List Value) (hst : st = As.reverse ++ .ref b :: rest) (hro : (rest.map fun v => v.category).sum ≤ 8) (hf : cells ≤ R.cells ∧ slots ≤ R.slots) (hd : decode cc pc = .ok (.invokevirtual index, 3)) (kk : ∀ u : S, P u → J p l e R s m args below meth c g A nL Q cells slots (jset ws isC (W1 u)) lv (pc + 3) ((v u).toList ++ rest)) : J p l e R s m args below meth c g A nL Q cells slots ws lv pc st := by
  intro H locs ls hP hD hS hl
  have hPc : va_P g.1 classes W0 H := jsub hP hC
  have hDc : va_D A W0 := hD.sub isC hnd hC
  have hFc := va_free (wc := W0) hD hS hX.2.2.1 isC hC
  refine jcall (va_runU (As := As) (rest := rest) (bytes := bytes) (maxL := maxL) (ret := ret) hX.1 (hc H.size) (va_cwA n hX.1.2.2.2.2 hG hw hrm.1 hrm.2 (hx ▸ hX.2.2.2.1) hd0 hR) ⟨jP.blind, va_recv (q := (C, T, N)) hX.2.1 hP hci hq0, fun U hU hW => ⟨rfl, by rw [hU], by rw [hU]; exact hPc, va_K.moved hW.alike hX.2.1, hDc.weaken (fun _ _ _ _ => trivial), by rw [hU]; exact sAll.moved hW.alike (hX.2.2.2.at_call hS hFc)⟩⟩ rfl hn hl.1 hst (lv_room hro) hd ⟨hf.1, hf.2⟩) hS (fun q _ h => hFc q h) hFc (fun u H1 locs1 hu hP1 hk hS1 => ?_)
  obtain ⟨h1, h2⟩ := jset_ok hP hD hC (ha u) hk hP1
  exact kk u hu H1 locs1 ls h1 h2 hS1 hl
theorem j_mmax (hX : jOK p s m args c g A cc nL own Ts) {x y : Int32} {index : Nat} (h1 : Cond.methodLink own index Lib.Math.max.name ∈ Ts) (h2 : Cond.static Lib.Math.max.name ∈ Ts) (h3 : Cond.initialized "java/lang/Math" ∈ Ts) (h4 : Cond.code Lib.Math.max.name Lib.Math.max.code 2 (some .int) ∈ Ts) (hfr : 1 ≤ R.frames) (hlo : (st.map fun v => v.category).sum + 13 ≤ R.locals) (hf : cells ≤ R.cells ∧ slots ≤ R.slots) (hd : decode cc pc = .ok (.invokestatic index, 3)) (kk : J p l e R s m args below meth c g A nL Q cells slots ws lv (pc + 3) (.int (if x < y then y else x) :: st)) : J p l e R s m args below meth c g A nL Q cells slots ws lv pc (.int y :: .int x :: st) :=
  fun H locs ls hP hD hS hl => va_mmax hX.1.1 hX.1.2.1 (hX.1.2.2.1.trans hl.1.symm) hX.1.2.2.2.1 (hX.1.2.2.2.2 _ h1) (hX.1.2.2.2.2 _ h2) (hX.1.2.2.2.2 _ h3) (hX.1.2.2.2.2 _ h4) hfr hlo hf.1 hf.2 hd (kk H locs ls hP hD hS hl)
theorem j_copyb (hX : jOK p s m args c g A cc nL own Ts) {a0 a n0 n1 : Nat} {f h : Nat → Int32} {index : Nat} (q0 q1 sp dp n : Nat) (h1 : Cond.methodLink own index arraycopyName ∈ Ts) (h2 : Cond.native arraycopyName ∈ Ts) (h3 : Cond.static arraycopyName ∈ Ts) (h4 : Cond.initialized "java/lang/System" ∈ Ts) (he0 : ws[q0]? = some (bA g a0 n0 f)) (he1 : ws[q1]? = some (bA g a n1 h)) (hs : sp + n ≤ n0) (ht : dp + n ≤ n1) (hb0 : n0 < 2 ^ 31) (hb1 : n1 < 2 ^ 31) (hfit : ∀ i, i < n → fits .byte (.int (f (sp + i))) = true) (hfr : 1 ≤ R.frames) (hlo : (st.map fun v => v.category).sum + (nativeFrameWords "java/lang/System" "arraycopy" 5 + 11) ≤ R.locals) (ws' : va_W) (hws : ws.set q1 (bA g a n1 (va_cpy f h sp dp n)) = ws') (hd : decode cc pc = .ok (.invokestatic index, 3)) (kk : J p l e R s m args below meth c g A nL Q cells slots ws' lv (pc + 3) st) : J p l e R s m args below meth c g A nL Q cells slots ws lv pc (.int (nI n) :: .int (nI dp) :: .ref a :: .int (nI sp) :: .ref a0 :: st) := by
  have e1 := nI_clamp (n := sp) (by omega)
  have e2 := nI_clamp (n := dp) (by omega)
  have e3 := nI_clamp (n := n) (by omega)
  intro H locs ls hP hD hS hl
  refine va_copyi (ty := .byte) hX.1.1 hX.1.2.1 (hX.1.2.2.1.trans hl.1.symm) hX.1.2.2.2.1 (hX.1.2.2.2.2 _ h1) (hX.1.2.2.2.2 _ h2) (hX.1.2.2.2.2 _ h3) (hX.1.2.2.2.2 _ h4) hX.2.1 hP hD hS q0 q1 0 0 he0 he1 rfl rfl rfl (nI_pos (by omega)) (nI_pos (by omega)) (nI_pos (by omega)) (by rw [e1, e3]; exact hs) (by rw [e2, e3]; exact ht) (by rw [e1, e3]; exact hfit) hfr hlo hd (fun H1 locs1 hP1 hD1 hS1 => ?_)
  rw [e1, e2, e3] at hP1 hD1
  exact kk H1 locs1 ls (hws ▸ hP1) (hws ▸ hD1) hS1 hl
end JR
