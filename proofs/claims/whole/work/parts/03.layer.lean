section ZX
/-- the kinds of arrays: int, boolean, long; others behind them -/
abbrev zTy (K : Nat → ClassId) (M : List (ClassId × FieldType)) : List (ClassId × FieldType) := (K 0, .int) :: (K 1, .boolean) :: (K 2, .long) :: M
abbrev cI (K : Nat → ClassId) (a n : Nat) (f : Nat → Int32) : Nat × va_E := (a, .inl (K 0, n, .inl f))
abbrev cZ (K : Nat → ClassId) (a n : Nat) (f : Nat → Int32) : Nat × va_E := (a, .inl (K 1, n, .inl f))
abbrev cJ (K : Nat → ClassId) (a n : Nat) (f : Nat → Int64) : Nat × va_E := (a, .inl (K 2, n, .inr (.inl f)))
abbrev cO (a ci : Nat) (fs : List Value) : Nat × va_E := (a, .inr (ci, fs))
/-- what a method's walk has all the way: code, locals, words, tables, and that new cells are its own -/
def zF (p : Program) (s : State) (m : MethodId) (args : Array Value) (c : Code) (cc : ByteArray) (nL : Nat) (own : String) (D : va_G) (K : Nat → ClassId) (M : List (ClassId × FieldType)) (A : Nat → Prop) : Prop :=
  p.tables.exec = Jvm.exec ∧ c.code = cc ∧ c.maxLocals = nL ∧ s.vm.findClass own = some m.cls ∧ (∀ w ∈ zAll, w.before args s = true) ∧ va_K D zCl (zTy K M) s ∧ ∀ q : Nat, s.heap.size ≤ q → A q
/-- from every heap that holds ws, with locals that hold lv: the walk goes on well at pc with the stack st -/
def zW (p : Program) (l : Launch) (e : Env) (R : Room) (s : State) (m : MethodId) (args : Array Value) (below : List Frame) (meth : Method) (c : Code) (D : va_G) (A : Nat → Prop) (cells slots : Nat) (Q : State → Prop) (nL : Nat) (ws : va_W) (lv : List (Nat × Value)) (pc : Nat) (st : List Value) : Prop :=
  ∀ (H : Heap) (locs : List Loc) (ls : Array Slot), lv_has ls nL lv → va_P D zCl ws H → va_D A ws → va_S A s.heap H locs → W p l e R s m args below meth c H locs cells slots Q (F0 m pc ls st)
variable {p : Program} {l : Launch} {e : Env} {R : Room} {s : State} {m : MethodId} {args : Array Value} {below : List Frame} {meth : Method} {c : Code} {cells slots : Nat} {Q : State → Prop}
variable {cc : ByteArray} {nL pc : Nat} {rest : List Value} {D : va_G} {K : Nat → ClassId} {M : List (ClassId × FieldType)} {A : Nat → Prop} {ws : va_W} {lv : List (Nat × Value)} {own : String}
theorem zw (hF : zF p s m args c cc nL own D K M A) {w : Cond} (h : w ∈ zAll) : w.before args s = true := hF.2.2.2.2.1 w h
theorem zx_iconst (hF : zF p s m args c cc nL own D K M A) {n : Int} {v : Int32} (hdg : decode cc pc = .ok (.iconst n, 1)) (hv : Int32.ofInt n = v) (k : zW p l e R s m args below meth c D A cells slots Q nL ws lv (pc + 1) (.int v :: rest)) : zW p l e R s m args below meth c D A cells slots Q nL ws lv pc (rest) := fun _ _ _ h1 h2 h3 h4 => lv_iconst hF.1 hF.2.1 hdg hv (k _ _ _ h1 h2 h3 h4)
theorem zx_bipush (hF : zF p s m args c cc nL own D K M A) {n : Int} {v : Int32} (hdg : decode cc pc = .ok (.bipush n, 2)) (hv : (Int8.ofInt n).toInt32 = v) (k : zW p l e R s m args below meth c D A cells slots Q nL ws lv (pc + 2) (.int v :: rest)) : zW p l e R s m args below meth c D A cells slots Q nL ws lv pc (rest) := fun _ _ _ h1 h2 h3 h4 => lv_bipush hF.1 hF.2.1 hdg hv (k _ _ _ h1 h2 h3 h4)
theorem zx_sipush (hF : zF p s m args c cc nL own D K M A) {n : Int} {v : Int32} (hdg : decode cc pc = .ok (.sipush n, 3)) (hv : (Int16.ofInt n).toInt32 = v) (k : zW p l e R s m args below meth c D A cells slots Q nL ws lv (pc + 3) (.int v :: rest)) : zW p l e R s m args below meth c D A cells slots Q nL ws lv pc (rest) := fun _ _ _ h1 h2 h3 h4 => lv_sipush hF.1 hF.2.1 hdg hv (k _ _ _ h1 h2 h3 h4)
theorem zx_lconst (hF : zF p s m args c cc nL own D K M A) {n : Fin 2} {v : Int64} (hdg : decode cc pc = .ok (.lconst n, 1)) (hv : Int64.ofNat (n : Nat) = v) (k : zW p l e R s m args below meth c D A cells slots Q nL ws lv (pc + 1) (.long v :: rest)) : zW p l e R s m args below meth c D A cells slots Q nL ws lv pc (rest) := fun _ _ _ h1 h2 h3 h4 => lv_lconst hF.1 hF.2.1 hdg hv (k _ _ _ h1 h2 h3 h4)
theorem zx_ldc (hF : zF p s m args c cc nL own D K M A) {index : Nat} {v : Int32} (hc : Cond.constant own index v ∈ zAll) (hdg : decode cc pc = .ok (.ldc index, 2)) (k : zW p l e R s m args below meth c D A cells slots Q nL ws lv (pc + 2) (.int v :: rest)) : zW p l e R s m args below meth c D A cells slots Q nL ws lv pc (rest) := fun _ _ _ h1 h2 h3 h4 => lv_ldc hF.1 hF.2.1 hF.2.2.2.1 (zw hF hc) hdg (k _ _ _ h1 h2 h3 h4)
theorem zx_ldc2 (hF : zF p s m args c cc nL own D K M A) {index : Nat} {v : Int64} (hc : Cond.constantLong own index v ∈ zAll) (hdg : decode cc pc = .ok (.ldc2_w index, 3)) (k : zW p l e R s m args below meth c D A cells slots Q nL ws lv (pc + 3) (.long v :: rest)) : zW p l e R s m args below meth c D A cells slots Q nL ws lv pc (rest) := fun _ _ _ h1 h2 h3 h4 => lv_ldc2 hF.1 hF.2.1 hF.2.2.2.1 (zw hF hc) hdg (k _ _ _ h1 h2 h3 h4)
theorem zx_iload_n (hF : zF p s m args c cc nL own D K M A) {k0 : Fin 4} {i : Nat} {x : Int32} (hdg : decode cc pc = .ok (.iload_n k0, 1)) (hi : (k0 : Nat) = i) (q : Nat) (hq : lv[q]? = some (i, .int x)) (k : zW p l e R s m args below meth c D A cells slots Q nL ws lv (pc + 1) (.int x :: rest)) : zW p l e R s m args below meth c D A cells slots Q nL ws lv pc rest := fun _ _ _ h1 h2 h3 h4 => lv_iload_n hF.1 hF.2.1 hdg hi (lv_at h1 q hq) (k _ _ _ h1 h2 h3 h4)
theorem zx_iload (hF : zF p s m args c cc nL own D K M A) {i : Nat} {x : Int32} (hdg : decode cc pc = .ok (.iload i, 2)) (q : Nat) (hq : lv[q]? = some (i, .int x)) (k : zW p l e R s m args below meth c D A cells slots Q nL ws lv (pc + 2) (.int x :: rest)) : zW p l e R s m args below meth c D A cells slots Q nL ws lv pc rest := fun _ _ _ h1 h2 h3 h4 => lv_iload hF.1 hF.2.1 hdg (lv_at h1 q hq) (k _ _ _ h1 h2 h3 h4)
theorem zx_lload_n (hF : zF p s m args c cc nL own D K M A) {k0 : Fin 4} {i : Nat} {x : Int64} (hdg : decode cc pc = .ok (.lload_n k0, 1)) (hi : (k0 : Nat) = i) (q : Nat) (hq : lv[q]? = some (i, .long x)) (k : zW p l e R s m args below meth c D A cells slots Q nL ws lv (pc + 1) (.long x :: rest)) : zW p l e R s m args below meth c D A cells slots Q nL ws lv pc rest := fun _ _ _ h1 h2 h3 h4 => lv_lload_n hF.1 hF.2.1 hdg hi (lv_at h1 q hq) (k _ _ _ h1 h2 h3 h4)
theorem zx_lload (hF : zF p s m args c cc nL own D K M A) {i : Nat} {x : Int64} (hdg : decode cc pc = .ok (.lload i, 2)) (q : Nat) (hq : lv[q]? = some (i, .long x)) (k : zW p l e R s m args below meth c D A cells slots Q nL ws lv (pc + 2) (.long x :: rest)) : zW p l e R s m args below meth c D A cells slots Q nL ws lv pc rest := fun _ _ _ h1 h2 h3 h4 => lv_lload hF.1 hF.2.1 hdg (lv_at h1 q hq) (k _ _ _ h1 h2 h3 h4)
theorem zx_aload_n (hF : zF p s m args c cc nL own D K M A) {k0 : Fin 4} {i : Nat} {x : Nat} (hdg : decode cc pc = .ok (.aload_n k0, 1)) (hi : (k0 : Nat) = i) (q : Nat) (hq : lv[q]? = some (i, .ref x)) (k : zW p l e R s m args below meth c D A cells slots Q nL ws lv (pc + 1) (.ref x :: rest)) : zW p l e R s m args below meth c D A cells slots Q nL ws lv pc rest := fun _ _ _ h1 h2 h3 h4 => lv_aload_n hF.1 hF.2.1 hdg hi (lv_at h1 q hq) (k _ _ _ h1 h2 h3 h4)
theorem zx_aload (hF : zF p s m args c cc nL own D K M A) {i : Nat} {x : Nat} (hdg : decode cc pc = .ok (.aload i, 2)) (q : Nat) (hq : lv[q]? = some (i, .ref x)) (k : zW p l e R s m args below meth c D A cells slots Q nL ws lv (pc + 2) (.ref x :: rest)) : zW p l e R s m args below meth c D A cells slots Q nL ws lv pc rest := fun _ _ _ h1 h2 h3 h4 => lv_aload hF.1 hF.2.1 hdg (lv_at h1 q hq) (k _ _ _ h1 h2 h3 h4)
theorem zx_istore_n (hF : zF p s m args c cc nL own D K M A) {k0 : Fin 4} {i : Nat} {x : Int32} {lv' : List (Nat × Value)} (hdg : decode cc pc = .ok (.istore_n k0, 1)) (hi : (k0 : Nat) = i) (hn : i < nL) (hl : (i, Value.int x) :: lv.filter (fun q => !(q.1 == i) && !(q.1 + 1 == i && q.2.category == 2)) = lv') (k : zW p l e R s m args below meth c D A cells slots Q nL ws lv' (pc + 1) rest) : zW p l e R s m args below meth c D A cells slots Q nL ws lv pc (.int x :: rest) := fun _ _ _ h1 h2 h3 h4 => lv_istore_n hF.1 hF.2.1 hdg hi h1 hn hl (fun _ h5 => k _ _ _ h5 h2 h3 h4)
theorem zx_istore (hF : zF p s m args c cc nL own D K M A) {i : Nat} {x : Int32} {lv' : List (Nat × Value)} (hdg : decode cc pc = .ok (.istore i, 2)) (hn : i < nL) (hl : (i, Value.int x) :: lv.filter (fun q => !(q.1 == i) && !(q.1 + 1 == i && q.2.category == 2)) = lv') (k : zW p l e R s m args below meth c D A cells slots Q nL ws lv' (pc + 2) rest) : zW p l e R s m args below meth c D A cells slots Q nL ws lv pc (.int x :: rest) := fun _ _ _ h1 h2 h3 h4 => lv_istore hF.1 hF.2.1 hdg h1 hn hl (fun _ h5 => k _ _ _ h5 h2 h3 h4)
theorem zx_astore_n (hF : zF p s m args c cc nL own D K M A) {k0 : Fin 4} {i : Nat} {x : Nat} {lv' : List (Nat × Value)} (hdg : decode cc pc = .ok (.astore_n k0, 1)) (hi : (k0 : Nat) = i) (hn : i < nL) (hl : (i, Value.ref x) :: lv.filter (fun q => !(q.1 == i) && !(q.1 + 1 == i && q.2.category == 2)) = lv') (k : zW p l e R s m args below meth c D A cells slots Q nL ws lv' (pc + 1) rest) : zW p l e R s m args below meth c D A cells slots Q nL ws lv pc (.ref x :: rest) := fun _ _ _ h1 h2 h3 h4 => lv_astore_n hF.1 hF.2.1 hdg hi h1 hn hl (fun _ h5 => k _ _ _ h5 h2 h3 h4)
theorem zx_astore (hF : zF p s m args c cc nL own D K M A) {i : Nat} {x : Nat} {lv' : List (Nat × Value)} (hdg : decode cc pc = .ok (.astore i, 2)) (hn : i < nL) (hl : (i, Value.ref x) :: lv.filter (fun q => !(q.1 == i) && !(q.1 + 1 == i && q.2.category == 2)) = lv') (k : zW p l e R s m args below meth c D A cells slots Q nL ws lv' (pc + 2) rest) : zW p l e R s m args below meth c D A cells slots Q nL ws lv pc (.ref x :: rest) := fun _ _ _ h1 h2 h3 h4 => lv_astore hF.1 hF.2.1 hdg h1 hn hl (fun _ h5 => k _ _ _ h5 h2 h3 h4)
theorem zx_lstore_n (hF : zF p s m args c cc nL own D K M A) {k0 : Fin 4} {i : Nat} {x : Int64} {lv' : List (Nat × Value)} (hdg : decode cc pc = .ok (.lstore_n k0, 1)) (hi : (k0 : Nat) = i) (hn : i + 1 < nL) (hl : (i, Value.long x) :: lv.filter (fun q => !(q.1 == i) && (!(q.1 == i + 1) && !(q.1 + 1 == i && q.2.category == 2))) = lv') (k : zW p l e R s m args below meth c D A cells slots Q nL ws lv' (pc + 1) rest) : zW p l e R s m args below meth c D A cells slots Q nL ws lv pc (.long x :: rest) := fun _ _ _ h1 h2 h3 h4 => lv_lstore_n hF.1 hF.2.1 hdg hi h1 hn hl (fun _ h5 => k _ _ _ h5 h2 h3 h4)
theorem zx_lstore (hF : zF p s m args c cc nL own D K M A) {i : Nat} {x : Int64} {lv' : List (Nat × Value)} (hdg : decode cc pc = .ok (.lstore i, 2)) (hn : i + 1 < nL) (hl : (i, Value.long x) :: lv.filter (fun q => !(q.1 == i) && (!(q.1 == i + 1) && !(q.1 + 1 == i && q.2.category == 2))) = lv') (k : zW p l e R s m args below meth c D A cells slots Q nL ws lv' (pc + 2) rest) : zW p l e R s m args below meth c D A cells slots Q nL ws lv pc (.long x :: rest) := fun _ _ _ h1 h2 h3 h4 => lv_lstore hF.1 hF.2.1 hdg h1 hn hl (fun _ h5 => k _ _ _ h5 h2 h3 h4)
theorem zx_iinc (hF : zF p s m args c cc nL own D K M A) {i : Nat} {n : Int} {x v : Int32} {lv' : List (Nat × Value)} (hdg : decode cc pc = .ok (.iinc i n, 3)) (q : Nat) (hq : lv[q]? = some (i, .int x)) (hv : x + Int32.ofInt n = v) (hn : i < nL) (hl : (i, Value.int v) :: lv.filter (fun q => !(q.1 == i) && !(q.1 + 1 == i && q.2.category == 2)) = lv') (k : zW p l e R s m args below meth c D A cells slots Q nL ws lv' (pc + 3) rest) : zW p l e R s m args below meth c D A cells slots Q nL ws lv pc rest := fun _ _ _ h1 h2 h3 h4 => lv_iinc hF.1 hF.2.1 hdg h1 hq hv hn hl (fun _ h5 => k _ _ _ h5 h2 h3 h4)
theorem zx_iadd (hF : zF p s m args c cc nL own D K M A) {x y : Int32} (hdg : decode cc pc = .ok (.iadd, 1)) (k : zW p l e R s m args below meth c D A cells slots Q nL ws lv (pc + 1) (.int (x + y) :: rest)) : zW p l e R s m args below meth c D A cells slots Q nL ws lv pc (.int y :: .int x :: rest) := fun _ _ _ h1 h2 h3 h4 => lv_iadd hF.1 hF.2.1 hdg (k _ _ _ h1 h2 h3 h4)
theorem zx_isub (hF : zF p s m args c cc nL own D K M A) {x y : Int32} (hdg : decode cc pc = .ok (.isub, 1)) (k : zW p l e R s m args below meth c D A cells slots Q nL ws lv (pc + 1) (.int (x - y) :: rest)) : zW p l e R s m args below meth c D A cells slots Q nL ws lv pc (.int y :: .int x :: rest) := fun _ _ _ h1 h2 h3 h4 => lv_isub hF.1 hF.2.1 hdg (k _ _ _ h1 h2 h3 h4)
theorem zx_imul (hF : zF p s m args c cc nL own D K M A) {x y : Int32} (hdg : decode cc pc = .ok (.imul, 1)) (k : zW p l e R s m args below meth c D A cells slots Q nL ws lv (pc + 1) (.int (x * y) :: rest)) : zW p l e R s m args below meth c D A cells slots Q nL ws lv pc (.int y :: .int x :: rest) := fun _ _ _ h1 h2 h3 h4 => lv_imul hF.1 hF.2.1 hdg (k _ _ _ h1 h2 h3 h4)
theorem zx_iand (hF : zF p s m args c cc nL own D K M A) {x y : Int32} (hdg : decode cc pc = .ok (.iand, 1)) (k : zW p l e R s m args below meth c D A cells slots Q nL ws lv (pc + 1) (.int (x &&& y) :: rest)) : zW p l e R s m args below meth c D A cells slots Q nL ws lv pc (.int y :: .int x :: rest) := fun _ _ _ h1 h2 h3 h4 => lv_iand hF.1 hF.2.1 hdg (k _ _ _ h1 h2 h3 h4)
theorem zx_ior (hF : zF p s m args c cc nL own D K M A) {x y : Int32} (hdg : decode cc pc = .ok (.ior, 1)) (k : zW p l e R s m args below meth c D A cells slots Q nL ws lv (pc + 1) (.int (x ||| y) :: rest)) : zW p l e R s m args below meth c D A cells slots Q nL ws lv pc (.int y :: .int x :: rest) := fun _ _ _ h1 h2 h3 h4 => lv_ior hF.1 hF.2.1 hdg (k _ _ _ h1 h2 h3 h4)
theorem zx_ixor (hF : zF p s m args c cc nL own D K M A) {x y : Int32} (hdg : decode cc pc = .ok (.ixor, 1)) (k : zW p l e R s m args below meth c D A cells slots Q nL ws lv (pc + 1) (.int (x ^^^ y) :: rest)) : zW p l e R s m args below meth c D A cells slots Q nL ws lv pc (.int y :: .int x :: rest) := fun _ _ _ h1 h2 h3 h4 => lv_ixor hF.1 hF.2.1 hdg (k _ _ _ h1 h2 h3 h4)
theorem zx_ishl (hF : zF p s m args c cc nL own D K M A) {x y : Int32} (hdg : decode cc pc = .ok (.ishl, 1)) (k : zW p l e R s m args below meth c D A cells slots Q nL ws lv (pc + 1) (.int (x <<< (y &&& 31)) :: rest)) : zW p l e R s m args below meth c D A cells slots Q nL ws lv pc (.int y :: .int x :: rest) := fun _ _ _ h1 h2 h3 h4 => lv_ishl hF.1 hF.2.1 hdg (k _ _ _ h1 h2 h3 h4)
theorem zx_ishr (hF : zF p s m args c cc nL own D K M A) {x y : Int32} (hdg : decode cc pc = .ok (.ishr, 1)) (k : zW p l e R s m args below meth c D A cells slots Q nL ws lv (pc + 1) (.int (x >>> (y &&& 31)) :: rest)) : zW p l e R s m args below meth c D A cells slots Q nL ws lv pc (.int y :: .int x :: rest) := fun _ _ _ h1 h2 h3 h4 => lv_ishr hF.1 hF.2.1 hdg (k _ _ _ h1 h2 h3 h4)
theorem zx_idiv (hF : zF p s m args c cc nL own D K M A) {x y : Int32} (hdg : decode cc pc = .ok (.idiv, 1)) (hne : ¬ y = 0) (k : zW p l e R s m args below meth c D A cells slots Q nL ws lv (pc + 1) (.int (x / y) :: rest)) : zW p l e R s m args below meth c D A cells slots Q nL ws lv pc (.int y :: .int x :: rest) := fun _ _ _ h1 h2 h3 h4 => lv_idiv hF.1 hF.2.1 hdg hne (k _ _ _ h1 h2 h3 h4)
theorem zx_irem (hF : zF p s m args c cc nL own D K M A) {x y : Int32} (hdg : decode cc pc = .ok (.irem, 1)) (hne : ¬ y = 0) (k : zW p l e R s m args below meth c D A cells slots Q nL ws lv (pc + 1) (.int (x - x / y * y) :: rest)) : zW p l e R s m args below meth c D A cells slots Q nL ws lv pc (.int y :: .int x :: rest) := fun _ _ _ h1 h2 h3 h4 => lv_irem hF.1 hF.2.1 hdg hne (k _ _ _ h1 h2 h3 h4)
theorem zx_ladd (hF : zF p s m args c cc nL own D K M A) {x y : Int64} (hdg : decode cc pc = .ok (.ladd, 1)) (k : zW p l e R s m args below meth c D A cells slots Q nL ws lv (pc + 1) (.long (x + y) :: rest)) : zW p l e R s m args below meth c D A cells slots Q nL ws lv pc (.long y :: .long x :: rest) := fun _ _ _ h1 h2 h3 h4 => lv_ladd hF.1 hF.2.1 hdg (k _ _ _ h1 h2 h3 h4)
theorem zx_lsub (hF : zF p s m args c cc nL own D K M A) {x y : Int64} (hdg : decode cc pc = .ok (.lsub, 1)) (k : zW p l e R s m args below meth c D A cells slots Q nL ws lv (pc + 1) (.long (x - y) :: rest)) : zW p l e R s m args below meth c D A cells slots Q nL ws lv pc (.long y :: .long x :: rest) := fun _ _ _ h1 h2 h3 h4 => lv_lsub hF.1 hF.2.1 hdg (k _ _ _ h1 h2 h3 h4)
theorem zx_lmul (hF : zF p s m args c cc nL own D K M A) {x y : Int64} (hdg : decode cc pc = .ok (.lmul, 1)) (k : zW p l e R s m args below meth c D A cells slots Q nL ws lv (pc + 1) (.long (x * y) :: rest)) : zW p l e R s m args below meth c D A cells slots Q nL ws lv pc (.long y :: .long x :: rest) := fun _ _ _ h1 h2 h3 h4 => lv_lmul hF.1 hF.2.1 hdg (k _ _ _ h1 h2 h3 h4)
theorem zx_land (hF : zF p s m args c cc nL own D K M A) {x y : Int64} (hdg : decode cc pc = .ok (.land, 1)) (k : zW p l e R s m args below meth c D A cells slots Q nL ws lv (pc + 1) (.long (x &&& y) :: rest)) : zW p l e R s m args below meth c D A cells slots Q nL ws lv pc (.long y :: .long x :: rest) := fun _ _ _ h1 h2 h3 h4 => lv_land hF.1 hF.2.1 hdg (k _ _ _ h1 h2 h3 h4)
theorem zx_lor (hF : zF p s m args c cc nL own D K M A) {x y : Int64} (hdg : decode cc pc = .ok (.lor, 1)) (k : zW p l e R s m args below meth c D A cells slots Q nL ws lv (pc + 1) (.long (x ||| y) :: rest)) : zW p l e R s m args below meth c D A cells slots Q nL ws lv pc (.long y :: .long x :: rest) := fun _ _ _ h1 h2 h3 h4 => lv_lor hF.1 hF.2.1 hdg (k _ _ _ h1 h2 h3 h4)
theorem zx_lxor (hF : zF p s m args c cc nL own D K M A) {x y : Int64} (hdg : decode cc pc = .ok (.lxor, 1)) (k : zW p l e R s m args below meth c D A cells slots Q nL ws lv (pc + 1) (.long (x ^^^ y) :: rest)) : zW p l e R s m args below meth c D A cells slots Q nL ws lv pc (.long y :: .long x :: rest) := fun _ _ _ h1 h2 h3 h4 => lv_lxor hF.1 hF.2.1 hdg (k _ _ _ h1 h2 h3 h4)
theorem zx_ldiv (hF : zF p s m args c cc nL own D K M A) {x y : Int64} (hdg : decode cc pc = .ok (.ldiv, 1)) (hne : ¬ y = 0) (k : zW p l e R s m args below meth c D A cells slots Q nL ws lv (pc + 1) (.long (x / y) :: rest)) : zW p l e R s m args below meth c D A cells slots Q nL ws lv pc (.long y :: .long x :: rest) := fun _ _ _ h1 h2 h3 h4 => lv_ldiv hF.1 hF.2.1 hdg hne (k _ _ _ h1 h2 h3 h4)
theorem zx_lrem (hF : zF p s m args c cc nL own D K M A) {x y : Int64} (hdg : decode cc pc = .ok (.lrem, 1)) (hne : ¬ y = 0) (k : zW p l e R s m args below meth c D A cells slots Q nL ws lv (pc + 1) (.long (x - x / y * y) :: rest)) : zW p l e R s m args below meth c D A cells slots Q nL ws lv pc (.long y :: .long x :: rest) := fun _ _ _ h1 h2 h3 h4 => lv_lrem hF.1 hF.2.1 hdg hne (k _ _ _ h1 h2 h3 h4)
theorem zx_iushr (hF : zF p s m args c cc nL own D K M A) {x y v : Int32} (hdg : decode cc pc = .ok (.iushr, 1)) (hv : (x.toUInt32 >>> (y.toUInt32 &&& Int32.toUInt32 31)).toInt32 = v) (k : zW p l e R s m args below meth c D A cells slots Q nL ws lv (pc + 1) (.int v :: rest)) : zW p l e R s m args below meth c D A cells slots Q nL ws lv pc (.int y :: .int x :: rest) := fun _ _ _ h1 h2 h3 h4 => lv_iushr hF.1 hF.2.1 hdg hv (k _ _ _ h1 h2 h3 h4)
theorem zx_lushr (hF : zF p s m args c cc nL own D K M A) {x v : Int64} {y : Int32} (hdg : decode cc pc = .ok (.lushr, 1)) (hv : (x.toUInt64 >>> (y.toInt64.toUInt64 &&& Int64.toUInt64 63)).toInt64 = v) (k : zW p l e R s m args below meth c D A cells slots Q nL ws lv (pc + 1) (.long v :: rest)) : zW p l e R s m args below meth c D A cells slots Q nL ws lv pc (.int y :: .long x :: rest) := fun _ _ _ h1 h2 h3 h4 => lv_lushr hF.1 hF.2.1 hdg hv (k _ _ _ h1 h2 h3 h4)
theorem zx_lshl (hF : zF p s m args c cc nL own D K M A) {x v : Int64} {y : Int32} (hdg : decode cc pc = .ok (.lshl, 1)) (hv : x <<< (y.toInt64 &&& 63) = v) (k : zW p l e R s m args below meth c D A cells slots Q nL ws lv (pc + 1) (.long v :: rest)) : zW p l e R s m args below meth c D A cells slots Q nL ws lv pc (.int y :: .long x :: rest) := fun _ _ _ h1 h2 h3 h4 => lv_lshl hF.1 hF.2.1 hdg hv (k _ _ _ h1 h2 h3 h4)
theorem zx_i2l (hF : zF p s m args c cc nL own D K M A) {x : Int32} {v : Int64} (hdg : decode cc pc = .ok (.i2l, 1)) (hv : x.toInt64 = v) (k : zW p l e R s m args below meth c D A cells slots Q nL ws lv (pc + 1) (.long v :: rest)) : zW p l e R s m args below meth c D A cells slots Q nL ws lv pc (.int x :: rest) := fun _ _ _ h1 h2 h3 h4 => lv_i2l hF.1 hF.2.1 hdg hv (k _ _ _ h1 h2 h3 h4)
theorem zx_l2i (hF : zF p s m args c cc nL own D K M A) {x : Int64} {v : Int32} (hdg : decode cc pc = .ok (.l2i, 1)) (hv : x.toInt32 = v) (k : zW p l e R s m args below meth c D A cells slots Q nL ws lv (pc + 1) (.int v :: rest)) : zW p l e R s m args below meth c D A cells slots Q nL ws lv pc (.long x :: rest) := fun _ _ _ h1 h2 h3 h4 => lv_l2i hF.1 hF.2.1 hdg hv (k _ _ _ h1 h2 h3 h4)
theorem zx_lcmp (hF : zF p s m args c cc nL own D K M A) {x y : Int64} (hdg : decode cc pc = .ok (.lcmp, 1)) (k : zW p l e R s m args below meth c D A cells slots Q nL ws lv (pc + 1) (.int (lg_cmp x y) :: rest)) : zW p l e R s m args below meth c D A cells slots Q nL ws lv pc (.long y :: .long x :: rest) := fun _ _ _ h1 h2 h3 h4 => W.lcmp hF.1 hF.2.1 hdg (k _ _ _ h1 h2 h3 h4)
theorem zx_dup (hF : zF p s m args c cc nL own D K M A) {va : Value} (hdg : decode cc pc = .ok (.dup, 1)) (hva : va.category = 1) (k : zW p l e R s m args below meth c D A cells slots Q nL ws lv (pc + 1) (va :: va :: rest)) : zW p l e R s m args below meth c D A cells slots Q nL ws lv pc (va :: rest) := fun _ _ _ h1 h2 h3 h4 => lv_dup hF.1 hF.2.1 hdg hva (k _ _ _ h1 h2 h3 h4)
theorem zx_pop (hF : zF p s m args c cc nL own D K M A) {va : Value} (hdg : decode cc pc = .ok (.pop, 1)) (hva : va.category = 1) (k : zW p l e R s m args below meth c D A cells slots Q nL ws lv (pc + 1) (rest)) : zW p l e R s m args below meth c D A cells slots Q nL ws lv pc (va :: rest) := fun _ _ _ h1 h2 h3 h4 => lv_pop hF.1 hF.2.1 hdg hva (k _ _ _ h1 h2 h3 h4)
theorem zx_dup2 (hF : zF p s m args c cc nL own D K M A) {va vb : Value} (hdg : decode cc pc = .ok (.dup2, 1)) (hva : va.category = 1) (hvb : vb.category = 1) (k : zW p l e R s m args below meth c D A cells slots Q nL ws lv (pc + 1) (va :: vb :: va :: vb :: rest)) : zW p l e R s m args below meth c D A cells slots Q nL ws lv pc (va :: vb :: rest) := fun _ _ _ h1 h2 h3 h4 => lv_dup2_11 hF.1 hF.2.1 hdg hva hvb (k _ _ _ h1 h2 h3 h4)
theorem zx_topi {x : Int32} (y : Int32) (h : x = y) (k : zW p l e R s m args below meth c D A cells slots Q nL ws lv pc (.int y :: rest)) : zW p l e R s m args below meth c D A cells slots Q nL ws lv pc (.int x :: rest) := h ▸ k
theorem zx_topl {x : Int64} (y : Int64) (h : x = y) (k : zW p l e R s m args below meth c D A cells slots Q nL ws lv pc (.long y :: rest)) : zW p l e R s m args below meth c D A cells slots Q nL ws lv pc (.long x :: rest) := h ▸ k
theorem zx_if_eq (hF : zF p s m args c cc nL own D K M A) {x : Int32} {off : Int} {tgt : Nat} (hdg : decode cc pc = .ok (.ifCond .eq off, 3)) (ht : (pc : Int) + off = (tgt : Int)) (kt : x = 0 → zW p l e R s m args below meth c D A cells slots Q nL ws lv tgt rest) (kf : ¬ x = 0 → zW p l e R s m args below meth c D A cells slots Q nL ws lv (pc + 3) rest) : zW p l e R s m args below meth c D A cells slots Q nL ws lv pc (.int x :: rest) := fun _ _ _ h1 h2 h3 h4 => lv_if_eq hF.1 hF.2.1 hdg ht (fun h => kt h _ _ _ h1 h2 h3 h4) (fun h => kf h _ _ _ h1 h2 h3 h4)
theorem zx_if_ne (hF : zF p s m args c cc nL own D K M A) {x : Int32} {off : Int} {tgt : Nat} (hdg : decode cc pc = .ok (.ifCond .ne off, 3)) (ht : (pc : Int) + off = (tgt : Int)) (kt : ¬ x = 0 → zW p l e R s m args below meth c D A cells slots Q nL ws lv tgt rest) (kf : x = 0 → zW p l e R s m args below meth c D A cells slots Q nL ws lv (pc + 3) rest) : zW p l e R s m args below meth c D A cells slots Q nL ws lv pc (.int x :: rest) := fun _ _ _ h1 h2 h3 h4 => lv_if_ne hF.1 hF.2.1 hdg ht (fun h => kt h _ _ _ h1 h2 h3 h4) (fun h => kf h _ _ _ h1 h2 h3 h4)
theorem zx_if_lt (hF : zF p s m args c cc nL own D K M A) {x : Int32} {off : Int} {tgt : Nat} (hdg : decode cc pc = .ok (.ifCond .lt off, 3)) (ht : (pc : Int) + off = (tgt : Int)) (kt : x < 0 → zW p l e R s m args below meth c D A cells slots Q nL ws lv tgt rest) (kf : ¬ x < 0 → zW p l e R s m args below meth c D A cells slots Q nL ws lv (pc + 3) rest) : zW p l e R s m args below meth c D A cells slots Q nL ws lv pc (.int x :: rest) := fun _ _ _ h1 h2 h3 h4 => lv_if_lt hF.1 hF.2.1 hdg ht (fun h => kt h _ _ _ h1 h2 h3 h4) (fun h => kf h _ _ _ h1 h2 h3 h4)
theorem zx_if_ge (hF : zF p s m args c cc nL own D K M A) {x : Int32} {off : Int} {tgt : Nat} (hdg : decode cc pc = .ok (.ifCond .ge off, 3)) (ht : (pc : Int) + off = (tgt : Int)) (kt : 0 ≤ x → zW p l e R s m args below meth c D A cells slots Q nL ws lv tgt rest) (kf : ¬ 0 ≤ x → zW p l e R s m args below meth c D A cells slots Q nL ws lv (pc + 3) rest) : zW p l e R s m args below meth c D A cells slots Q nL ws lv pc (.int x :: rest) := fun _ _ _ h1 h2 h3 h4 => lv_if_ge hF.1 hF.2.1 hdg ht (fun h => kt h _ _ _ h1 h2 h3 h4) (fun h => kf h _ _ _ h1 h2 h3 h4)
theorem zx_if_gt (hF : zF p s m args c cc nL own D K M A) {x : Int32} {off : Int} {tgt : Nat} (hdg : decode cc pc = .ok (.ifCond .gt off, 3)) (ht : (pc : Int) + off = (tgt : Int)) (kt : 0 < x → zW p l e R s m args below meth c D A cells slots Q nL ws lv tgt rest) (kf : ¬ 0 < x → zW p l e R s m args below meth c D A cells slots Q nL ws lv (pc + 3) rest) : zW p l e R s m args below meth c D A cells slots Q nL ws lv pc (.int x :: rest) := fun _ _ _ h1 h2 h3 h4 => lv_if_gt hF.1 hF.2.1 hdg ht (fun h => kt h _ _ _ h1 h2 h3 h4) (fun h => kf h _ _ _ h1 h2 h3 h4)
theorem zx_if_le (hF : zF p s m args c cc nL own D K M A) {x : Int32} {off : Int} {tgt : Nat} (hdg : decode cc pc = .ok (.ifCond .le off, 3)) (ht : (pc : Int) + off = (tgt : Int)) (kt : x ≤ 0 → zW p l e R s m args below meth c D A cells slots Q nL ws lv tgt rest) (kf : ¬ x ≤ 0 → zW p l e R s m args below meth c D A cells slots Q nL ws lv (pc + 3) rest) : zW p l e R s m args below meth c D A cells slots Q nL ws lv pc (.int x :: rest) := fun _ _ _ h1 h2 h3 h4 => lv_if_le hF.1 hF.2.1 hdg ht (fun h => kt h _ _ _ h1 h2 h3 h4) (fun h => kf h _ _ _ h1 h2 h3 h4)
theorem zx_icmp_eq (hF : zF p s m args c cc nL own D K M A) {x y : Int32} {off : Int} {tgt : Nat} (hdg : decode cc pc = .ok (.if_icmp .eq off, 3)) (ht : (pc : Int) + off = (tgt : Int)) (kt : x = y → zW p l e R s m args below meth c D A cells slots Q nL ws lv tgt rest) (kf : ¬ x = y → zW p l e R s m args below meth c D A cells slots Q nL ws lv (pc + 3) rest) : zW p l e R s m args below meth c D A cells slots Q nL ws lv pc (.int y :: .int x :: rest) := fun _ _ _ h1 h2 h3 h4 => lv_icmp_eq hF.1 hF.2.1 hdg ht (fun h => kt h _ _ _ h1 h2 h3 h4) (fun h => kf h _ _ _ h1 h2 h3 h4)
theorem zx_icmp_ne (hF : zF p s m args c cc nL own D K M A) {x y : Int32} {off : Int} {tgt : Nat} (hdg : decode cc pc = .ok (.if_icmp .ne off, 3)) (ht : (pc : Int) + off = (tgt : Int)) (kt : ¬ x = y → zW p l e R s m args below meth c D A cells slots Q nL ws lv tgt rest) (kf : x = y → zW p l e R s m args below meth c D A cells slots Q nL ws lv (pc + 3) rest) : zW p l e R s m args below meth c D A cells slots Q nL ws lv pc (.int y :: .int x :: rest) := fun _ _ _ h1 h2 h3 h4 => lv_icmp_ne hF.1 hF.2.1 hdg ht (fun h => kt h _ _ _ h1 h2 h3 h4) (fun h => kf h _ _ _ h1 h2 h3 h4)
theorem zx_icmp_lt (hF : zF p s m args c cc nL own D K M A) {x y : Int32} {off : Int} {tgt : Nat} (hdg : decode cc pc = .ok (.if_icmp .lt off, 3)) (ht : (pc : Int) + off = (tgt : Int)) (kt : x < y → zW p l e R s m args below meth c D A cells slots Q nL ws lv tgt rest) (kf : ¬ x < y → zW p l e R s m args below meth c D A cells slots Q nL ws lv (pc + 3) rest) : zW p l e R s m args below meth c D A cells slots Q nL ws lv pc (.int y :: .int x :: rest) := fun _ _ _ h1 h2 h3 h4 => lv_icmp_lt hF.1 hF.2.1 hdg ht (fun h => kt h _ _ _ h1 h2 h3 h4) (fun h => kf h _ _ _ h1 h2 h3 h4)
theorem zx_icmp_ge (hF : zF p s m args c cc nL own D K M A) {x y : Int32} {off : Int} {tgt : Nat} (hdg : decode cc pc = .ok (.if_icmp .ge off, 3)) (ht : (pc : Int) + off = (tgt : Int)) (kt : y ≤ x → zW p l e R s m args below meth c D A cells slots Q nL ws lv tgt rest) (kf : ¬ y ≤ x → zW p l e R s m args below meth c D A cells slots Q nL ws lv (pc + 3) rest) : zW p l e R s m args below meth c D A cells slots Q nL ws lv pc (.int y :: .int x :: rest) := fun _ _ _ h1 h2 h3 h4 => lv_icmp_ge hF.1 hF.2.1 hdg ht (fun h => kt h _ _ _ h1 h2 h3 h4) (fun h => kf h _ _ _ h1 h2 h3 h4)
theorem zx_icmp_gt (hF : zF p s m args c cc nL own D K M A) {x y : Int32} {off : Int} {tgt : Nat} (hdg : decode cc pc = .ok (.if_icmp .gt off, 3)) (ht : (pc : Int) + off = (tgt : Int)) (kt : y < x → zW p l e R s m args below meth c D A cells slots Q nL ws lv tgt rest) (kf : ¬ y < x → zW p l e R s m args below meth c D A cells slots Q nL ws lv (pc + 3) rest) : zW p l e R s m args below meth c D A cells slots Q nL ws lv pc (.int y :: .int x :: rest) := fun _ _ _ h1 h2 h3 h4 => lv_icmp_gt hF.1 hF.2.1 hdg ht (fun h => kt h _ _ _ h1 h2 h3 h4) (fun h => kf h _ _ _ h1 h2 h3 h4)
theorem zx_icmp_le (hF : zF p s m args c cc nL own D K M A) {x y : Int32} {off : Int} {tgt : Nat} (hdg : decode cc pc = .ok (.if_icmp .le off, 3)) (ht : (pc : Int) + off = (tgt : Int)) (kt : x ≤ y → zW p l e R s m args below meth c D A cells slots Q nL ws lv tgt rest) (kf : ¬ x ≤ y → zW p l e R s m args below meth c D A cells slots Q nL ws lv (pc + 3) rest) : zW p l e R s m args below meth c D A cells slots Q nL ws lv pc (.int y :: .int x :: rest) := fun _ _ _ h1 h2 h3 h4 => lv_icmp_le hF.1 hF.2.1 hdg ht (fun h => kt h _ _ _ h1 h2 h3 h4) (fun h => kf h _ _ _ h1 h2 h3 h4)
theorem zx_goto (hF : zF p s m args c cc nL own D K M A) {off : Int} {tgt : Nat} (hdg : decode cc pc = .ok (.goto off, 3)) (ht : (pc : Int) + off = (tgt : Int)) (k : zW p l e R s m args below meth c D A cells slots Q nL ws lv tgt rest) : zW p l e R s m args below meth c D A cells slots Q nL ws lv pc rest := fun _ _ _ h1 h2 h3 h4 => lv_goto hF.1 hF.2.1 hdg ht (k _ _ _ h1 h2 h3 h4)
theorem zx_lv {lv' : List (Nat × Value)} {st : List Value} (ks : List Nat) (hl : lv_pick lv ks = lv') (k : zW p l e R s m args below meth c D A cells slots Q nL ws lv' pc st) : zW p l e R s m args below meth c D A cells slots Q nL ws lv pc st := fun _ _ _ h1 h2 h3 h4 => k _ _ _ (lv_sub h1 ks hl) h2 h3 h4
theorem zx_eq {ws' : va_W} {lv' : List (Nat × Value)} {st st' : List Value} (h1 : ws = ws') (h2 : lv = lv') (h3 : st = st') (k : zW p l e R s m args below meth c D A cells slots Q nL ws' lv' pc st') : zW p l e R s m args below meth c D A cells slots Q nL ws lv pc st := by subst h1; subst h2; subst h3; exact k
theorem zx_get (hF : zF p s m args c cc nL own D K M A) {C : String} {T : u_T} {N ci index a : Nat} (hin : ∀ w ∈ u_ws C T N, w ∈ zAll) (q0 : Nat) {fs : List Value} (he : ws[q0]? = some (a, .inr (ci, fs))) (hc : zCl[ci]? = some (C, T, N)) (k0 : Nat) (hk : k0 < N) (hlink : Cond.fieldLink own index (T k0).1 (T k0).2.1 (T k0).2.2.1 ∈ zAll) {v : Value} (hv : fs[k0]? = some v) (hdg : decode cc pc = .ok (.getfield index, 3)) (k : zW p l e R s m args below meth c D A cells slots Q nL ws lv (pc + 3) (v :: rest)) : zW p l e R s m args below meth c D A cells slots Q nL ws lv pc (.ref a :: rest) := fun _ _ _ h1 h2 h3 h4 => va_get hF.1 hF.2.1 hF.2.2.2.2.1 hin hF.2.2.2.1 hF.2.2.2.2.2.1 h2 q0 he hc k0 hk (zw hF hlink) (fun _ h => h) hv hdg (k _ _ _ h1 h2 h3 h4)
theorem zx_put (hF : zF p s m args c cc nL own D K M A) {C : String} {T : u_T} {N ci index a : Nat} (hin : ∀ w ∈ u_ws C T N, w ∈ zAll) (q0 : Nat) {fs : List Value} (he : ws[q0]? = some (a, .inr (ci, fs))) (hc : zCl[ci]? = some (C, T, N)) (k0 : Nat) (hk : k0 < N) (hlink : Cond.fieldLink own index (T k0).1 (T k0).2.1 (T k0).2.2.1 ∈ zAll) (ty0 : Nat → FieldType) (hty : ∀ k, k < N → parseFieldDescriptor (T k).2.2.1 = some (ty0 k)) (hnm : ∀ a, a < N → ∀ b, b < N → a ≠ b → (T a).2.1 ≠ (T b).2.1) (hfin : (T k0).2.2.2 = false) {ty : FieldType} {v : Value} (hd : parseFieldDescriptor (T k0).2.2.1 = some ty) (hn : narrow ty v = v) (hfit : fits ty v = true) (hl : k0 < fs.length) (hdg : decode cc pc = .ok (.putfield index, 3)) {ws' : va_W} (hw : ws.set q0 (a, .inr (ci, fs.set k0 v)) = ws') (k : zW p l e R s m args below meth c D A cells slots Q nL ws' lv (pc + 3) rest) : zW p l e R s m args below meth c D A cells slots Q nL ws lv pc (v :: .ref a :: rest) := fun _ _ _ h1 h2 h3 h4 => va_put hF.1 hF.2.1 hF.2.2.2.2.1 hin ty0 hty hnm hF.2.2.2.1 hF.2.2.2.2.2.1 h2 h3 h4 q0 he hc k0 hk (zw hF hlink) (fun _ h => h) hfin hd hn hfit hl hdg (fun _ _ h5 h6 h7 => k _ _ _ h1 (hw ▸ h5) (hw ▸ h6) h7)
theorem zx_putF (hF : zF p s m args c cc nL own D K M A) {C : String} {T : u_T} {N ci index a : Nat} (hin : ∀ w ∈ u_ws C T N, w ∈ zAll) (q0 : Nat) {fs : List Value} (he : ws[q0]? = some (a, .inr (ci, fs))) (hc : zCl[ci]? = some (C, T, N)) (k0 : Nat) (hk : k0 < N) (hlink : Cond.fieldLink own index (T k0).1 (T k0).2.1 (T k0).2.2.1 ∈ zAll) (ty0 : Nat → FieldType) (hty : ∀ k, k < N → parseFieldDescriptor (T k).2.2.1 = some (ty0 k)) (hnm : ∀ a, a < N → ∀ b, b < N → a ≠ b → (T a).2.1 ≠ (T b).2.1) (hfin : (T k0).2.2.2 = true) (hin2 : meth.name = "<init>") (hdecl : (T k0).1 = own) {ty : FieldType} {v : Value} (hd : parseFieldDescriptor (T k0).2.2.1 = some ty) (hn : narrow ty v = v) (hfit : fits ty v = true) (hl : k0 < fs.length) (hdg : decode cc pc = .ok (.putfield index, 3)) {ws' : va_W} (hw : ws.set q0 (a, .inr (ci, fs.set k0 v)) = ws') (k : zW p l e R s m args below meth c D A cells slots Q nL ws' lv (pc + 3) rest) : zW p l e R s m args below meth c D A cells slots Q nL ws lv pc (v :: .ref a :: rest) := fun _ _ _ h1 h2 h3 h4 => va_putF hF.1 hF.2.1 hF.2.2.2.2.1 hin ty0 hty hnm hF.2.2.2.1 hF.2.2.2.2.2.1 h2 h3 h4 q0 he hc k0 hk (zw hF hlink) (fun _ h => h) hfin hin2 hdecl hd hn hfit hl hdg (fun _ _ h5 h6 h7 => k _ _ _ h1 (hw ▸ h5) (hw ▸ h6) h7)
theorem zx_iald (hF : zF p s m args c cc nL own D K M A) (q0 : Nat) {a n : Nat} {f : Nat → Int32} (ha : ws[q0]? = some (cI K a n f)) {i : Int32} (hi : vp_in i n) (hdg : decode cc pc = .ok (.iaload, 1)) (k : zW p l e R s m args below meth c D A cells slots Q nL ws lv (pc + 1) (.int (f i.toNatClampNeg) :: rest)) : zW p l e R s m args below meth c D A cells slots Q nL ws lv pc (.int i :: .ref a :: rest) := fun _ _ _ h1 h2 h3 h4 => va_iald hF.1 hF.2.1 hF.2.2.2.2.2.1 h2 q0 0 ha rfl hi hdg (k _ _ _ h1 h2 h3 h4)
theorem zx_ialdn (hF : zF p s m args c cc nL own D K M A) (q0 : Nat) {a n : Nat} {f : Nat → Int32} (ha : ws[q0]? = some (cI K a n f)) {i : Nat} (hi : i < n) (hn : n < 2 ^ 31) (hdg : decode cc pc = .ok (.iaload, 1)) (k : zW p l e R s m args below meth c D A cells slots Q nL ws lv (pc + 1) (.int (f i) :: rest)) : zW p l e R s m args below meth c D A cells slots Q nL ws lv pc (.int (nI i) :: .ref a :: rest) := zx_iald hF q0 ha (vp_in_nI hi hn) hdg (by rw [nI_clamp (Nat.lt_trans hi hn)]; exact k)
theorem zx_zald (hF : zF p s m args c cc nL own D K M A) (q0 : Nat) {a n : Nat} {f : Nat → Int32} (ha : ws[q0]? = some (cZ K a n f)) {i : Int32} (hi : vp_in i n) (hdg : decode cc pc = .ok (.baload, 1)) (k : zW p l e R s m args below meth c D A cells slots Q nL ws lv (pc + 1) (.int (f i.toNatClampNeg) :: rest)) : zW p l e R s m args below meth c D A cells slots Q nL ws lv pc (.int i :: .ref a :: rest) := fun _ _ _ h1 h2 h3 h4 => va_zald hF.1 hF.2.1 hF.2.2.2.2.2.1 h2 q0 1 ha rfl hi hdg (k _ _ _ h1 h2 h3 h4)
theorem zx_zaldn (hF : zF p s m args c cc nL own D K M A) (q0 : Nat) {a n : Nat} {f : Nat → Int32} (ha : ws[q0]? = some (cZ K a n f)) {i : Nat} (hi : i < n) (hn : n < 2 ^ 31) (hdg : decode cc pc = .ok (.baload, 1)) (k : zW p l e R s m args below meth c D A cells slots Q nL ws lv (pc + 1) (.int (f i) :: rest)) : zW p l e R s m args below meth c D A cells slots Q nL ws lv pc (.int (nI i) :: .ref a :: rest) := zx_zald hF q0 ha (vp_in_nI hi hn) hdg (by rw [nI_clamp (Nat.lt_trans hi hn)]; exact k)
theorem zx_lald (hF : zF p s m args c cc nL own D K M A) (q0 : Nat) {a n : Nat} {f : Nat → Int64} (ha : ws[q0]? = some (cJ K a n f)) {i : Int32} (hi : vp_in i n) (hdg : decode cc pc = .ok (.laload, 1)) (k : zW p l e R s m args below meth c D A cells slots Q nL ws lv (pc + 1) (.long (f i.toNatClampNeg) :: rest)) : zW p l e R s m args below meth c D A cells slots Q nL ws lv pc (.int i :: .ref a :: rest) := fun _ _ _ h1 h2 h3 h4 => va_lald hF.1 hF.2.1 hF.2.2.2.2.2.1 h2 q0 2 ha rfl hi hdg (k _ _ _ h1 h2 h3 h4)
theorem zx_laldn (hF : zF p s m args c cc nL own D K M A) (q0 : Nat) {a n : Nat} {f : Nat → Int64} (ha : ws[q0]? = some (cJ K a n f)) {i : Nat} (hi : i < n) (hn : n < 2 ^ 31) (hdg : decode cc pc = .ok (.laload, 1)) (k : zW p l e R s m args below meth c D A cells slots Q nL ws lv (pc + 1) (.long (f i) :: rest)) : zW p l e R s m args below meth c D A cells slots Q nL ws lv pc (.int (nI i) :: .ref a :: rest) := zx_lald hF q0 ha (vp_in_nI hi hn) hdg (by rw [nI_clamp (Nat.lt_trans hi hn)]; exact k)
theorem zx_iast (hF : zF p s m args c cc nL own D K M A) (q0 : Nat) {a n : Nat} {f : Nat → Int32} (ha : ws[q0]? = some (cI K a n f)) {i : Int32} {x : Int32} (hi : vp_in i n) (hdg : decode cc pc = .ok (.iastore, 1)) {ws' : va_W} (hw : ws.set q0 (cI K a n (upd f i.toNatClampNeg x)) = ws') (k : zW p l e R s m args below meth c D A cells slots Q nL ws' lv (pc + 1) rest) : zW p l e R s m args below meth c D A cells slots Q nL ws lv pc (.int x :: .int i :: .ref a :: rest) := fun _ _ _ h1 h2 h3 h4 => va_iast hF.1 hF.2.1 hF.2.2.2.2.2.1 h2 h3 h4 q0 0 ha rfl hi hdg (fun _ _ h5 h6 h7 => k _ _ _ h1 (hw ▸ h5) (hw ▸ h6) h7)
theorem zx_iastn (hF : zF p s m args c cc nL own D K M A) (q0 : Nat) {a n : Nat} {f : Nat → Int32} (ha : ws[q0]? = some (cI K a n f)) {i : Nat} {x : Int32} (hi : i < n) (hn : n < 2 ^ 31) (hdg : decode cc pc = .ok (.iastore, 1)) {ws' : va_W} (hw : ws.set q0 (cI K a n (upd f i x)) = ws') (k : zW p l e R s m args below meth c D A cells slots Q nL ws' lv (pc + 1) rest) : zW p l e R s m args below meth c D A cells slots Q nL ws lv pc (.int x :: .int (nI i) :: .ref a :: rest) := zx_iast hF q0 ha (vp_in_nI hi hn) hdg (by rw [nI_clamp (Nat.lt_trans hi hn)]; exact hw) k
theorem zx_zast (hF : zF p s m args c cc nL own D K M A) (q0 : Nat) {a n : Nat} {f : Nat → Int32} (ha : ws[q0]? = some (cZ K a n f)) {i : Int32} {x : Int32} (hi : vp_in i n) (hdg : decode cc pc = .ok (.bastore, 1)) {ws' : va_W} (hw : ws.set q0 (cZ K a n (upd f i.toNatClampNeg (vp_nar .boolean x))) = ws') (k : zW p l e R s m args below meth c D A cells slots Q nL ws' lv (pc + 1) rest) : zW p l e R s m args below meth c D A cells slots Q nL ws lv pc (.int x :: .int i :: .ref a :: rest) := fun _ _ _ h1 h2 h3 h4 => va_zast hF.1 hF.2.1 hF.2.2.2.2.2.1 h2 h3 h4 q0 1 ha rfl hi hdg (fun _ _ h5 h6 h7 => k _ _ _ h1 (hw ▸ h5) (hw ▸ h6) h7)
theorem zx_zastn (hF : zF p s m args c cc nL own D K M A) (q0 : Nat) {a n : Nat} {f : Nat → Int32} (ha : ws[q0]? = some (cZ K a n f)) {i : Nat} {x : Int32} (hi : i < n) (hn : n < 2 ^ 31) (hx : vp_nar .boolean x = x) (hdg : decode cc pc = .ok (.bastore, 1)) {ws' : va_W} (hw : ws.set q0 (cZ K a n (upd f i x)) = ws') (k : zW p l e R s m args below meth c D A cells slots Q nL ws' lv (pc + 1) rest) : zW p l e R s m args below meth c D A cells slots Q nL ws lv pc (.int x :: .int (nI i) :: .ref a :: rest) := zx_zast hF q0 ha (vp_in_nI hi hn) hdg (by rw [nI_clamp (Nat.lt_trans hi hn)]; rw [hx]; exact hw) k
theorem zx_last (hF : zF p s m args c cc nL own D K M A) (q0 : Nat) {a n : Nat} {f : Nat → Int64} (ha : ws[q0]? = some (cJ K a n f)) {i : Int32} {x : Int64} (hi : vp_in i n) (hdg : decode cc pc = .ok (.lastore, 1)) {ws' : va_W} (hw : ws.set q0 (cJ K a n (vp_updL f i.toNatClampNeg x)) = ws') (k : zW p l e R s m args below meth c D A cells slots Q nL ws' lv (pc + 1) rest) : zW p l e R s m args below meth c D A cells slots Q nL ws lv pc (.long x :: .int i :: .ref a :: rest) := fun _ _ _ h1 h2 h3 h4 => va_last hF.1 hF.2.1 hF.2.2.2.2.2.1 h2 h3 h4 q0 2 ha rfl hi hdg (fun _ _ h5 h6 h7 => k _ _ _ h1 (hw ▸ h5) (hw ▸ h6) h7)
theorem zx_lastn (hF : zF p s m args c cc nL own D K M A) (q0 : Nat) {a n : Nat} {f : Nat → Int64} (ha : ws[q0]? = some (cJ K a n f)) {i : Nat} {x : Int64} (hi : i < n) (hn : n < 2 ^ 31) (hdg : decode cc pc = .ok (.lastore, 1)) {ws' : va_W} (hw : ws.set q0 (cJ K a n (vp_updL f i x)) = ws') (k : zW p l e R s m args below meth c D A cells slots Q nL ws' lv (pc + 1) rest) : zW p l e R s m args below meth c D A cells slots Q nL ws lv pc (.long x :: .int (nI i) :: .ref a :: rest) := zx_last hF q0 ha (vp_in_nI hi hn) hdg (by rw [nI_clamp (Nat.lt_trans hi hn)]; exact hw) k
theorem zx_aldq (hF : zF p s m args c cc nL own D K M A) (q0 t0 : Nat) {a b : Nat} {cA : ClassId} {C : String} {n : Nat} {f : Nat → Option Nat} (ha : ws[q0]? = some (a, .inl (cA, n, .inr (.inr (.inr (.inr f)))))) (ht : (zTy K M)[t0]? = some (cA, .object C)) {i : Int32} (hi : vp_in i n) (hf : f i.toNatClampNeg = some b) (hdg : decode cc pc = .ok (.aaload, 1)) (k : zW p l e R s m args below meth c D A cells slots Q nL ws lv (pc + 1) (.ref b :: rest)) : zW p l e R s m args below meth c D A cells slots Q nL ws lv pc (.int i :: .ref a :: rest) := fun _ _ _ h1 h2 h3 h4 => va_aldq hF.1 hF.2.1 hF.2.2.2.2.2.1 h2 q0 t0 ha ht hi hdg (by rw [hf]; exact k _ _ _ h1 h2 h3 h4)
theorem zx_alen (hF : zF p s m args c cc nL own D K M A) (q0 t0 : Nat) {a : Nat} {cA : ClassId} {x : vp_A} (ha : ws[q0]? = some (a, .inl (cA, x))) {ty : FieldType} (ht : (zTy K M)[t0]? = some (cA, ty)) {v : Int32} (hv : nI x.1 = v) (hdg : decode cc pc = .ok (.arraylength, 1)) (k : zW p l e R s m args below meth c D A cells slots Q nL ws lv (pc + 1) (.int v :: rest)) : zW p l e R s m args below meth c D A cells slots Q nL ws lv pc (.ref a :: rest) := fun _ _ _ h1 h2 h3 h4 => va_alen hF.1 hF.2.1 hF.2.2.2.2.2.1 h2 q0 t0 ha ht hv hdg (k _ _ _ h1 h2 h3 h4)
/-- a method's start: its world stands, at a heap of size sz -/
def zA (D : va_G) (K : Nat → ClassId) (M : List (ClassId × FieldType)) (w0 : va_W) (sz : Nat) (U : State) : Prop := U.heap.size = sz ∧ va_P D zCl w0 U.heap ∧ va_K D zCl (zTy K M) U ∧ va_D (fun _ => True) w0
/-- .. and its end -/
def zB (D : va_G) (K : Nat → ClassId) (M : List (ClassId × FieldType)) (A : Nat → Prop) (w1 : va_W) (t : State) : Prop := va_P D zCl w1 t.heap ∧ va_K D zCl (zTy K M) t ∧ va_D A w1
abbrev zQi (D : va_G) (K : Nat → ClassId) (M : List (ClassId × FieldType)) (r : Int32) (w1 : va_W) (A : Nat → Prop) : Array Value → State → Outcome → State → Prop := va_Qi (fun x (_ : Unit) => x = r) (fun _ => zB D K M A w1) A
abbrev zQl (D : va_G) (K : Nat → ClassId) (M : List (ClassId × FieldType)) (r : Int64) (w1 : va_W) (A : Nat → Prop) : Array Value → State → Outcome → State → Prop := va_Ql (fun x (_ : Unit) => x = r) (fun _ => zB D K M A w1) A
abbrev zQv (D : va_G) (K : Nat → ClassId) (M : List (ClassId × FieldType)) (w1 : va_W) (A : Nat → Prop) : Array Value → State → Outcome → State → Prop := va_Qv (fun (_ : Unit) => True) (fun _ => zB D K M A w1) A
/-- of a maker: the new cells' addresses are u's -/
abbrev zQn (D : va_G) (K : Nat → ClassId) (M : List (ClassId × FieldType)) (w1 : (Nat → Nat) → va_W) (A : Nat → Prop) : Array Value → State → Outcome → State → Prop := va_Qv (fun (_ : Nat → Nat) => True) (fun u => zB D K M A (w1 u)) A
abbrev zM (l : Launch) (y : MethodName) (Ys : List Cond) (rm : Room) (mc ms : Nat) (D : va_G) (K : Nat → ClassId) (M : List (ClassId × FieldType)) (av : List Value) (w0 : va_W) (sz : Nat) (QC : (Nat → Prop) → Array Value → State → Outcome → State → Prop) : Prop :=
  Met l y Ys rm (va_Pc av (zA D K M w0 sz)) (QC (va_A w0 sz)) mc ms (va_A w0 sz)
theorem zx_head {y : MethodName} {rm : Room} {mc ms : Nat} {av : List Value} {w0 : va_W} {sz : Nat} {ret : Option FieldType} {QC : (Nat → Prop) → Array Value → State → Outcome → State → Prop} (hy : plainName y.cls = true) (hav : (lg_sl av).length ≤ nL)
    (body : ∀ (p : Program) (e : Env) (s : State) (m : MethodId) (args : Array Value) (below : List Frame) (meth : Method) (c : Code) (A : Nat → Prop), zF p s m args c cc nL y.cls D K M A → meth.sig.returnType = ret → meth.locks = false → meth.name = y.name →
      zW p l e rm s m args below meth c D A 0 0 (MQ below (QC A) args s mc ms A) nL w0 (lv_args 0 av) 0 []) : zM l y (zT y cc nL ret) rm mc ms D K M av w0 sz QC := by
  refine Met.ofW (cc := cc) (maxL := nL) (ret := ret) hy rfl ?_
  intro p e s m args below meth c s₁ B hml hv
  obtain ⟨rfl, hsz, hP, hK, hD0⟩ := hv
  subst hsz
  have hts := atoms_spec (ws := zT y cc nL ret) B.pre
  have hown : s.vm.findClass y.cls = some m.cls := findClass_of_methodNamed B.named
  have hin : meth.name = y.name := (name_of_methodNamed B.named B.method).1
  have hl := lv_entry av hav
  rw [lg_entry_eq]
  exact body p e s m av.toArray below meth c _ ⟨B.exec, B.bytes, hml, hown, fun w h => hts w (List.mem_cons_of_mem _ h), hK, fun q h => Or.inr h⟩ B.returns B.notSynchronized hin s.heap [] _ hl hP (hD0.self (sz := s.heap.size)) va_S.rf
theorem zx_iret (hF : zF p s m args c cc nL own D K M A) (hr : meth.sig.returnType = some .int) (hlk : meth.locks = false) {v r : Int32} {w1 : va_W} (hv : v = r) (hw : ws = w1) (hdg : decode cc pc = .ok (.ireturn, 1)) : zW p l e R s m args below meth c D A cells slots (MQ below (zQi D K M r w1 A) args s cells slots A) nL ws lv pc [.int v] := fun _ _ _ h1 h2 h3 h4 => W.iret hF.1 hF.2.1 hr (fun t ht hW => ⟨⟨v, (), rfl, hv, by rw [ht, ← hw]; exact h2, va_K.moved hW.alike hF.2.2.2.2.2.1, hw ▸ h3⟩, h4.F ht⟩) h4.2.2 hdg hlk
theorem zx_zret (hF : zF p s m args c cc nL own D K M A) {ty : FieldType} (hr : meth.sig.returnType = some ty) (hlk : meth.locks = false) {v r : Int32} {w1 : va_W} (hn : narrow ty (.int v) = .int v) (hv : v = r) (hw : ws = w1) (hdg : decode cc pc = .ok (.ireturn, 1)) : zW p l e R s m args below meth c D A cells slots (MQ below (zQi D K M r w1 A) args s cells slots A) nL ws lv pc [.int v] := fun _ _ _ h1 h2 h3 h4 => W.zret hF.1 hF.2.1 hr hn (fun t ht hW => ⟨⟨v, (), rfl, hv, by rw [ht, ← hw]; exact h2, va_K.moved hW.alike hF.2.2.2.2.2.1, hw ▸ h3⟩, h4.F ht⟩) h4.2.2 hdg hlk
theorem zx_lret (hF : zF p s m args c cc nL own D K M A) (hr : meth.sig.returnType = some .long) (hlk : meth.locks = false) {v r : Int64} {w1 : va_W} (hv : v = r) (hw : ws = w1) (hdg : decode cc pc = .ok (.lreturn, 1)) : zW p l e R s m args below meth c D A cells slots (MQ below (zQl D K M r w1 A) args s cells slots A) nL ws lv pc [.long v] := fun _ _ _ h1 h2 h3 h4 => W.lret hF.1 hF.2.1 hr (fun t ht hW => ⟨⟨v, (), rfl, hv, by rw [ht, ← hw]; exact h2, va_K.moved hW.alike hF.2.2.2.2.2.1, hw ▸ h3⟩, h4.F ht⟩) h4.2.2 hdg hlk
theorem zx_vret (hF : zF p s m args c cc nL own D K M A) (hr : meth.sig.returnType = none) (hlk : meth.locks = false) {w1 : va_W} (hw : ws = w1) (hdg : decode cc pc = .ok (.return_, 1)) : zW p l e R s m args below meth c D A cells slots (MQ below (zQv D K M w1 A) args s cells slots A) nL ws lv pc [] := fun _ _ _ h1 h2 h3 h4 => W.vret hF.1 hF.2.1 hr (fun t ht hW => ⟨⟨(), rfl, trivial, by rw [ht, ← hw]; exact h2, va_K.moved hW.alike hF.2.2.2.2.2.1, hw ▸ h3⟩, h4.F ht⟩) h4.2.2 hdg hlk
theorem zx_nret (hF : zF p s m args c cc nL own D K M A) (hr : meth.sig.returnType = none) (hlk : meth.locks = false) (u : Nat → Nat) {w1 : (Nat → Nat) → va_W} (hw : ws = w1 u) (hdg : decode cc pc = .ok (.return_, 1)) : zW p l e R s m args below meth c D A cells slots (MQ below (zQn D K M w1 A) args s cells slots A) nL ws lv pc [] := fun _ _ _ h1 h2 h3 h4 => W.vret hF.1 hF.2.1 hr (fun t ht hW => ⟨⟨u, rfl, trivial, by rw [ht, ← hw]; exact h2, va_K.moved hW.alike hF.2.2.2.2.2.1, hw ▸ h3⟩, h4.F ht⟩) h4.2.2 hdg hlk
/-- the cells xs at the places is -/
def zset : va_W → List Nat → va_W → va_W
  | ws, i :: is, x :: xs => zset (ws.set i x) is xs
  | ws, _, _ => ws
theorem zset_nil (ws xs : va_W) : zset ws [] xs = ws := by cases xs <;> rfl
theorem zset_out : ∀ (is : List Nat) (ws xs : va_W) (k : Nat), k ∉ is → (zset ws is xs)[k]? = ws[k]?
  | [], ws, xs, k, _ => by rw [zset_nil]
  | _ :: _, ws, [], k, _ => rfl
  | i :: is, ws, x :: xs, k, h => by
    have h1 : k ≠ i := fun e => h (by rw [e]; exact List.mem_cons_self)
    have h2 : k ∉ is := fun e => h (List.mem_cons_of_mem _ e)
    show (zset (ws.set i x) is xs)[k]? = ws[k]?
    rw [zset_out is (ws.set i x) xs k h2, List.getElem?_set_ne (Ne.symm h1)]
theorem zset_in : ∀ (is : List Nat) (ws xs : va_W) (j k : Nat) (x : Nat × va_E), is.Nodup → is[j]? = some k → xs[j]? = some x → k < ws.length → (zset ws is xs)[k]? = some x
  | [], _, _, _, _, _, _, h, _, _ => by simp at h
  | _ :: _, _, [], _, _, _, _, _, h, _ => by simp at h
  | i :: is, ws, y :: xs, 0, k, x, hn, h1, h2, hk => by
    have e1 : i = k := Option.some.inj h1
    have e2 : y = x := Option.some.inj h2
    subst e1; subst e2
    show (zset (ws.set i y) is xs)[i]? = some y
    rw [zset_out is _ xs i (List.nodup_cons.mp hn).1, List.getElem?_set_self hk]
  | i :: is, ws, y :: xs, j + 1, k, x, hn, h1, h2, hk => by
    show (zset (ws.set i y) is xs)[k]? = some x
    exact zset_in is (ws.set i y) xs j k x (List.nodup_cons.mp hn).2 h1 h2 (by rw [List.length_set]; exact hk)
theorem zjoin {A0 : Nat → Prop} {D : va_G} {cl : List vw_C} {ws wc w1 wn : va_W} {H H1 : Heap} (hP : va_P D cl ws H) (hD : va_D A0 ws) (is : List Nat) (hC : is.map (fun i => ws[i]?) = wc.map some) (hn : is.Nodup) (hfst : w1.map Prod.fst = wc.map Prod.fst)
    (hk : ∀ q : Nat, q < H.size → ¬ va_A wc H.size q → H1[q]? = H[q]?) (hF : ∀ q, va_A wc H.size q → A0 q) (hP1 : va_P D cl (w1 ++ wn) H1) (hD1 : va_D (va_A wc H.size) (w1 ++ wn)) : va_P D cl (zset ws is w1 ++ wn) H1 ∧ va_D A0 (zset ws is w1 ++ wn) := by
  have at' : ∀ (j : Nat) (x : Nat × va_E), wc[j]? = some x → ∃ i, is[j]? = some i ∧ ws[i]? = some x := by
    intro j x hx
    have h1 : (is.map (fun i => ws[i]?))[j]? = some (some x) := by rw [hC, List.getElem?_map, hx]; rfl
    rw [List.getElem?_map] at h1
    cases hi : is[j]? with
    | none => rw [hi] at h1; cases h1
    | some i => rw [hi] at h1; exact ⟨i, rfl, Option.some.inj h1⟩
  have back : ∀ i, i ∈ is → ∃ (j : Nat) (x y : Nat × va_E), is[j]? = some i ∧ ws[i]? = some x ∧ wc[j]? = some x ∧ w1[j]? = some y ∧ y.1 = x.1 := by
    intro i hi
    obtain ⟨j, hj⟩ := List.getElem?_of_mem hi
    have h1 : (wc.map some)[j]? = some (ws[i]?) := by rw [← hC, List.getElem?_map, hj]; rfl
    rw [List.getElem?_map] at h1
    cases hw : wc[j]? with
    | none => rw [hw] at h1; cases h1
    | some x =>
      rw [hw] at h1
      have h2 : (w1.map Prod.fst)[j]? = some x.1 := by rw [hfst, List.getElem?_map, hw]; rfl
      rw [List.getElem?_map] at h2
      cases hy : w1[j]? with
      | none => rw [hy] at h2; cases h2
      | some y => rw [hy] at h2; exact ⟨j, x, y, hj, (Option.some.inj h1).symm, hw, hy, Option.some.inj h2⟩
  have key : ∀ (k : Nat) (q : Nat × va_E), (zset ws is w1)[k]? = some q → ∃ x, ws[k]? = some x ∧ x.1 = q.1 ∧ ((∃ j : Nat, w1[j]? = some q) ∨ (k ∉ is ∧ x = q)) := by
    intro k q hq
    by_cases hm : k ∈ is
    · obtain ⟨j, x, y, g1, g2, g3, g4, g5⟩ := back k hm
      have hl : k < ws.length := (List.getElem?_eq_some_iff.mp g2).1
      rw [zset_in is ws w1 j k y hn g1 g4 hl] at hq
      cases hq
      exact ⟨x, g2, g5.symm, Or.inl ⟨j, g4⟩⟩
    · rw [zset_out is ws w1 k hm] at hq
      exact ⟨q, hq, rfl, Or.inr ⟨hm, rfl⟩⟩
  have apart : ∀ (k : Nat) (q : Nat × va_E), ws[k]? = some q → k ∉ is → q.1 < H.size ∧ ¬ va_A wc H.size q.1 := by
    intro k q hq hm
    have hl := (hP k q hq).lt
    refine ⟨hl, fun h => ?_⟩
    rcases h with ⟨j, e, h⟩ | h
    · obtain ⟨i, h3, h4⟩ := at' j (q.1, e) h
      have hij := hD.1 k i q (q.1, e) hq h4 rfl
      subst hij
      exact hm (List.mem_of_getElem? h3)
    · omega
  have left : ∀ (j : Nat) (q : Nat × va_E), w1[j]? = some q → (w1 ++ wn)[j]? = some q := fun j q h => by rw [List.getElem?_append_left (List.getElem?_eq_some_iff.mp h).1]; exact h
  have right : ∀ (j : Nat) (q : Nat × va_E), wn[j]? = some q → (w1 ++ wn)[w1.length + j]? = some q := fun j q h => by rw [List.getElem?_append_right (by omega), Nat.add_sub_cancel_left]; exact h
  refine ⟨va_P.app (fun k q hq => ?_) (fun k q hq => hP1 _ q (right k q hq)), va_D.app ⟨fun i j x y hi hj hxy => ?_, fun k q hq => ?_⟩ ⟨fun i j x y hi hj hxy => ?_, fun k q hq => hF _ (hD1.2 _ q (right k q hq))⟩ (fun i j x y hx hy hxy => ?_)⟩
  · obtain ⟨x, g1, g2, g3 | ⟨g3, g4⟩⟩ := key k q hq
    · obtain ⟨j, g3⟩ := g3
      exact hP1 j q (left j q g3)
    · subst g4
      obtain ⟨a1, a2⟩ := apart k x g1 g3
      exact (hP k x g1).kept (hk _ a1 a2)
  · obtain ⟨x0, a1, a2, -⟩ := key i x hi
    obtain ⟨y0, b1, b2, -⟩ := key j y hj
    exact hD.1 i j x0 y0 a1 b1 (a2.trans (hxy.trans b2.symm))
  · obtain ⟨x0, a1, a2, -⟩ := key k q hq
    rw [← a2]
    exact hD.2 k x0 a1
  · have := hD1.1 _ _ x y (right i x hi) (right j y hj) hxy
    omega
  · obtain ⟨x0, g1, g2, g3 | ⟨g3, g4⟩⟩ := key i x hx
    · obtain ⟨j0, g3⟩ := g3
      have h5 := hD1.1 _ _ x y (left j0 x g3) (right j y hy) hxy
      have h6 := (List.getElem?_eq_some_iff.mp g3).1
      omega
    · subst g4
      exact (apart i x0 g1 g3).2 (by rw [hxy]; exact hD1.2 _ y (right j y hy))
theorem zfree {A0 : Nat → Prop} {ws wc : va_W} {H0 H : Heap} {locs : List Loc} (hD : va_D A0 ws) (hS : va_S A0 H0 H locs) (hA : ∀ q, H0.size ≤ q → A0 q) (is : List Nat) (hC : is.map (fun i => ws[i]?) = wc.map some) : ∀ q, va_A wc H.size q → A0 q := va_free hD hS hA is hC
theorem zsubP {D : va_G} {cl : List vw_C} {A : Nat → Prop} {ws wc : va_W} {H : Heap} (hP : va_P D cl ws H) (hD : va_D A ws) (is : List Nat) (hC : is.map (fun i => ws[i]?) = wc.map some) (hn : is.Nodup) : va_P D cl wc H ∧ va_D A wc := by
  have at' : ∀ (j : Nat) (x : Nat × va_E), wc[j]? = some x → ∃ i, is[j]? = some i ∧ ws[i]? = some x := by
    intro j x hx
    have h1 : (is.map (fun i => ws[i]?))[j]? = some (some x) := by rw [hC, List.getElem?_map, hx]; rfl
    rw [List.getElem?_map] at h1
    cases hi : is[j]? with
    | none => rw [hi] at h1; cases h1
    | some i => rw [hi] at h1; exact ⟨i, rfl, Option.some.inj h1⟩
  refine ⟨fun k q hq => ?_, fun i j x y hi hj hxy => ?_, fun k q hq => ?_⟩
  · obtain ⟨i, -, h2⟩ := at' k q hq
    exact hP i q h2
  · obtain ⟨a, a1, a2⟩ := at' i x hi
    obtain ⟨b, b1, b2⟩ := at' j y hj
    have hab := hD.1 a b x y a2 b2 hxy
    subst hab
    exact (List.getElem?_inj (List.getElem?_eq_some_iff.mp a1).1 hn).mp (a1.trans b1.symm)
  · obtain ⟨i, -, h2⟩ := at' k q hq
    exact hD.2 i q h2
theorem zx_blind {D : va_G} {K : Nat → ClassId} {M : List (ClassId × FieldType)} {av : List Value} {w0 : va_W} {sz : Nat} : FrameBlind (va_Pc av (zA D K M w0 sz)) := fun a U g mk q => by
  obtain ⟨q0, q1, qP, qK, qD⟩ := q
  exact ⟨q0, q1, qP, va_K.moved (u := U) (U := U.calling g mk a) (Vm.Alike.refl U.vm) qK, qD⟩
/-- a callee's words are the caller's -/
theorem zgood {ws : List Cond} (h : ∀ w ∈ ws, w ∈ zAll) : GoodIn zAll ws := fun w hw => ⟨h w hw, good_of_word (List.mem_filter.mp (h w hw)).2⟩
theorem zcV {R : Room} {s : State} {args : Array Value} {own C : String} {index maxL n mc ms : Nat} {y : MethodName} {bytes : ByteArray} {ret : Option FieldType} {rm : Room} (ht : ∀ w ∈ zAll, w.before args s = true) (hb : Cond.code y bytes maxL ret ∈ zAll) (hl : Cond.methodLink own index y ∈ zAll) (hi : Cond.instanceMethod y ∈ zAll) (hs : Cond.selects C y y ∈ zAll) (hz : Cond.initialized C ∈ zAll) (hrc : rm.cells = mc) (hrs : rm.slots = ms)
    (hd : y.cls = C ∧ y.cls ≠ "java/lang/invoke/MethodHandle" ∧ y.cls ≠ "java/lang/invoke/VarHandle" ∧ (parseMethodDescriptor y.desc).map (fun d => d.parameters.length) = some n) (hR : rm.frames + 1 ≤ R.frames ∧ 8 + (maxL + 11) + rm.locals ≤ R.locals) : CallW R s args own C index y bytes maxL ret (zT y bytes maxL ret) rm mc ms n := by
  refine cwV n ht (zgood ?_) rfl hrc hrs hd hR
  intro w hw
  unfold wsV at hw
  rcases List.mem_append.mp hw with h | h
  · simp only [List.mem_cons, List.not_mem_nil, or_false] at h
    rcases h with h | h | h | h <;> subst h <;> assumption
  · rcases List.mem_cons.mp h with h | h
    · subst h; exact hb
    · exact h
theorem zcB {R : Room} {s : State} {args : Array Value} {own : String} {index maxL n mc ms : Nat} {y : MethodName} {bytes : ByteArray} {ret : Option FieldType} {rm : Room} (ht : ∀ w ∈ zAll, w.before args s = true) (hb : Cond.code y bytes maxL ret ∈ zAll) (hl : (Cond.methodLink own index y).before args s = true) (hz : Cond.initialized y.cls ∈ zAll) (hrc : rm.cells = mc) (hrs : rm.slots = ms)
    (hd : y.cls ≠ "java/lang/invoke/MethodHandle" ∧ y.cls ≠ "java/lang/invoke/VarHandle" ∧ (parseMethodDescriptor y.desc).map (fun d => d.parameters.length) = some n) (hR : rm.frames + 1 ≤ R.frames ∧ 8 + (maxL + 11) + rm.locals ≤ R.locals) : CallB R s args own index y bytes maxL ret (zT y bytes maxL ret) rm mc ms n := by
  refine callB_of n ht (zgood ?_) rfl hrc hrs (ht _ hz) hl hd hR
  intro w hw
  rcases List.mem_cons.mp hw with h | h
  · subst h; exact hb
  · exact h
theorem zx_Vi (hF : zF p s m args c cc nL own D K M A) {y : MethodName} {index maxL n : Nat} {bytes : ByteArray} {ret : Option FieldType} {rm : Room} {b : Nat} {As st0 : List Value} {r : Int32} {wc w1 ws' : va_W} (hM : ∀ sz : Nat, zM l y (zT y bytes maxL ret) rm 0 0 D K M (.ref b :: As) wc sz (zQi D K M r w1)) (is : List Nat) (hC : is.map (fun i => ws[i]?) = wc.map some) (hn : is.Nodup) {as : List Nat} (hf1 : w1.map Prod.fst = as) (hf2 : wc.map Prod.fst = as) (hw : zset ws is w1 = ws') {C : String} (q0 ci : Nat) {fs : List Value} {cq : vw_C} (hq0 : wc[q0]? = some (b, .inr (ci, fs))) (hcq : zCl[ci]? = some cq) (hcC : cq.1 = C) (cw : CallW R s args own C index y bytes maxL ret (zT y bytes maxL ret) rm 0 0 n) (hlen : As.length = n) (hst : st0 = (As.reverse ++ .ref b :: rest)) (hroom : (rest.map fun v => v.category).sum ≤ 8) (hdg : decode cc pc = .ok (.invokevirtual index, 3)) (hf : cells ≤ R.cells ∧ slots ≤ R.slots) (k : zW p l e R s m args below meth c D A cells slots Q nL ws' lv (pc + 3) (.int r :: rest)) : zW p l e R s m args below meth c D A cells slots Q nL ws lv pc st0 := fun H locs ls h1 h2 h3 h4 => by
  subst hst
  obtain ⟨hPc, hDc⟩ := zsubP h2 h3 is hC hn
  have hFc := zfree h3 h4 hF.2.2.2.2.2.2 is hC
  have hKc := hF.2.2.2.2.2.1
  refine va_calli (va_runV ⟨hF.1, hF.2.1, hF.2.2.1, hF.2.2.2.1, hF.2.2.2.2.1⟩ (hM H.size) cw ⟨zx_blind, by obtain ⟨cell, g1, g2, g3⟩ := va_recv hKc hPc hcq hq0; exact ⟨cell, g1, g2, by rw [← hcC]; exact g3⟩, fun U hU hW => ⟨rfl, by rw [hU], by rw [hU]; exact hPc, va_K.moved hW.alike hKc, hDc.weaken (fun _ _ _ _ => trivial)⟩⟩ rfl hlen h1.1 rfl (lv_room hroom) hdg ⟨hf.1, hf.2⟩) h4 (fun q _ h => hFc q h) hFc (fun r9 u t H1 locs1 ht hvm hp hB hz hk hS => ?_)
  subst hp
  obtain ⟨hP1, hK1, hD1⟩ := hB
  rw [ht] at hP1
  obtain ⟨hP2, hD2⟩ := zjoin (wn := []) h2 h3 is hC hn (hf1.trans hf2.symm) hk hFc (by rw [List.append_nil]; exact hP1) (by rw [List.append_nil]; exact hD1)
  rw [List.append_nil, hw] at hP2 hD2
  exact k H1 locs1 ls h1 hP2 hD2 hS
theorem zx_Vl (hF : zF p s m args c cc nL own D K M A) {y : MethodName} {index maxL n : Nat} {bytes : ByteArray} {ret : Option FieldType} {rm : Room} {b : Nat} {As st0 : List Value} {r : Int64} {wc w1 ws' : va_W} (hM : ∀ sz : Nat, zM l y (zT y bytes maxL ret) rm 0 0 D K M (.ref b :: As) wc sz (zQl D K M r w1)) (is : List Nat) (hC : is.map (fun i => ws[i]?) = wc.map some) (hn : is.Nodup) {as : List Nat} (hf1 : w1.map Prod.fst = as) (hf2 : wc.map Prod.fst = as) (hw : zset ws is w1 = ws') {C : String} (q0 ci : Nat) {fs : List Value} {cq : vw_C} (hq0 : wc[q0]? = some (b, .inr (ci, fs))) (hcq : zCl[ci]? = some cq) (hcC : cq.1 = C) (cw : CallW R s args own C index y bytes maxL ret (zT y bytes maxL ret) rm 0 0 n) (hlen : As.length = n) (hst : st0 = (As.reverse ++ .ref b :: rest)) (hroom : (rest.map fun v => v.category).sum ≤ 8) (hdg : decode cc pc = .ok (.invokevirtual index, 3)) (hf : cells ≤ R.cells ∧ slots ≤ R.slots) (k : zW p l e R s m args below meth c D A cells slots Q nL ws' lv (pc + 3) (.long r :: rest)) : zW p l e R s m args below meth c D A cells slots Q nL ws lv pc st0 := fun H locs ls h1 h2 h3 h4 => by
  subst hst
  obtain ⟨hPc, hDc⟩ := zsubP h2 h3 is hC hn
  have hFc := zfree h3 h4 hF.2.2.2.2.2.2 is hC
  have hKc := hF.2.2.2.2.2.1
  refine va_calll (va_runV ⟨hF.1, hF.2.1, hF.2.2.1, hF.2.2.2.1, hF.2.2.2.2.1⟩ (hM H.size) cw ⟨zx_blind, by obtain ⟨cell, g1, g2, g3⟩ := va_recv hKc hPc hcq hq0; exact ⟨cell, g1, g2, by rw [← hcC]; exact g3⟩, fun U hU hW => ⟨rfl, by rw [hU], by rw [hU]; exact hPc, va_K.moved hW.alike hKc, hDc.weaken (fun _ _ _ _ => trivial)⟩⟩ rfl hlen h1.1 rfl (lv_room hroom) hdg ⟨hf.1, hf.2⟩) h4 (fun q _ h => hFc q h) hFc (fun r9 u t H1 locs1 ht hvm hp hB hz hk hS => ?_)
  subst hp
  obtain ⟨hP1, hK1, hD1⟩ := hB
  rw [ht] at hP1
  obtain ⟨hP2, hD2⟩ := zjoin (wn := []) h2 h3 is hC hn (hf1.trans hf2.symm) hk hFc (by rw [List.append_nil]; exact hP1) (by rw [List.append_nil]; exact hD1)
  rw [List.append_nil, hw] at hP2 hD2
  exact k H1 locs1 ls h1 hP2 hD2 hS
theorem zx_Vv (hF : zF p s m args c cc nL own D K M A) {y : MethodName} {index maxL n : Nat} {bytes : ByteArray} {ret : Option FieldType} {rm : Room} {b : Nat} {As st0 : List Value}  {wc w1 ws' : va_W} (hM : ∀ sz : Nat, zM l y (zT y bytes maxL ret) rm 0 0 D K M (.ref b :: As) wc sz (zQv D K M w1)) (is : List Nat) (hC : is.map (fun i => ws[i]?) = wc.map some) (hn : is.Nodup) {as : List Nat} (hf1 : w1.map Prod.fst = as) (hf2 : wc.map Prod.fst = as) (hw : zset ws is w1 = ws') {C : String} (q0 ci : Nat) {fs : List Value} {cq : vw_C} (hq0 : wc[q0]? = some (b, .inr (ci, fs))) (hcq : zCl[ci]? = some cq) (hcC : cq.1 = C) (cw : CallW R s args own C index y bytes maxL ret (zT y bytes maxL ret) rm 0 0 n) (hlen : As.length = n) (hst : st0 = (As.reverse ++ .ref b :: rest)) (hroom : (rest.map fun v => v.category).sum ≤ 8) (hdg : decode cc pc = .ok (.invokevirtual index, 3)) (hf : cells ≤ R.cells ∧ slots ≤ R.slots) (k : zW p l e R s m args below meth c D A cells slots Q nL ws' lv (pc + 3) rest) : zW p l e R s m args below meth c D A cells slots Q nL ws lv pc st0 := fun H locs ls h1 h2 h3 h4 => by
  subst hst
  obtain ⟨hPc, hDc⟩ := zsubP h2 h3 is hC hn
  have hFc := zfree h3 h4 hF.2.2.2.2.2.2 is hC
  have hKc := hF.2.2.2.2.2.1
  refine va_callv (va_runV ⟨hF.1, hF.2.1, hF.2.2.1, hF.2.2.2.1, hF.2.2.2.2.1⟩ (hM H.size) cw ⟨zx_blind, by obtain ⟨cell, g1, g2, g3⟩ := va_recv hKc hPc hcq hq0; exact ⟨cell, g1, g2, by rw [← hcC]; exact g3⟩, fun U hU hW => ⟨rfl, by rw [hU], by rw [hU]; exact hPc, va_K.moved hW.alike hKc, hDc.weaken (fun _ _ _ _ => trivial)⟩⟩ rfl hlen h1.1 rfl (lv_room hroom) hdg ⟨hf.1, hf.2⟩) h4 (fun q _ h => hFc q h) hFc (fun u t H1 locs1 ht hvm hp hB hz hk hS => ?_)
  clear hp
  obtain ⟨hP1, hK1, hD1⟩ := hB
  rw [ht] at hP1
  obtain ⟨hP2, hD2⟩ := zjoin (wn := []) h2 h3 is hC hn (hf1.trans hf2.symm) hk hFc (by rw [List.append_nil]; exact hP1) (by rw [List.append_nil]; exact hD1)
  rw [List.append_nil, hw] at hP2 hD2
  exact k H1 locs1 ls h1 hP2 hD2 hS
theorem zx_Si (hF : zF p s m args c cc nL own D K M A) {y : MethodName} {index maxL n : Nat} {bytes : ByteArray} {ret : Option FieldType} {rm : Room}  {As st0 : List Value} {r : Int32} {wc w1 ws' : va_W} (hM : ∀ sz : Nat, zM l y (zT y bytes maxL ret) rm 0 0 D K M As wc sz (zQi D K M r w1)) (is : List Nat) (hC : is.map (fun i => ws[i]?) = wc.map some) (hn : is.Nodup) {as : List Nat} (hf1 : w1.map Prod.fst = as) (hf2 : wc.map Prod.fst = as) (hw : zset ws is w1 = ws')  (cw : CallB R s args own index y bytes maxL ret (zT y bytes maxL ret) rm 0 0 n ∧ (Cond.static y).before args s = true) (hlen : As.length = n) (hst : st0 = (As.reverse ++ rest)) (hroom : (rest.map fun v => v.category).sum ≤ 8) (hdg : decode cc pc = .ok (.invokestatic index, 3)) (hf : cells ≤ R.cells ∧ slots ≤ R.slots) (k : zW p l e R s m args below meth c D A cells slots Q nL ws' lv (pc + 3) (.int r :: rest)) : zW p l e R s m args below meth c D A cells slots Q nL ws lv pc st0 := fun H locs ls h1 h2 h3 h4 => by
  subst hst
  obtain ⟨hPc, hDc⟩ := zsubP h2 h3 is hC hn
  have hFc := zfree h3 h4 hF.2.2.2.2.2.2 is hC
  have hKc := hF.2.2.2.2.2.1
  refine va_calli (va_runS ⟨hF.1, hF.2.1, hF.2.2.1, hF.2.2.2.1, hF.2.2.2.2.1⟩ (hM H.size) cw ⟨zx_blind, fun U hU hW => ⟨rfl, by rw [hU], by rw [hU]; exact hPc, va_K.moved hW.alike hKc, hDc.weaken (fun _ _ _ _ => trivial)⟩⟩ rfl hlen h1.1 rfl (lv_room hroom) hdg ⟨hf.1, hf.2⟩) h4 (fun q _ h => hFc q h) hFc (fun r9 u t H1 locs1 ht hvm hp hB hz hk hS => ?_)
  subst hp
  obtain ⟨hP1, hK1, hD1⟩ := hB
  rw [ht] at hP1
  obtain ⟨hP2, hD2⟩ := zjoin (wn := []) h2 h3 is hC hn (hf1.trans hf2.symm) hk hFc (by rw [List.append_nil]; exact hP1) (by rw [List.append_nil]; exact hD1)
  rw [List.append_nil, hw] at hP2 hD2
  exact k H1 locs1 ls h1 hP2 hD2 hS
theorem zx_Sl (hF : zF p s m args c cc nL own D K M A) {y : MethodName} {index maxL n : Nat} {bytes : ByteArray} {ret : Option FieldType} {rm : Room}  {As st0 : List Value} {r : Int64} {wc w1 ws' : va_W} (hM : ∀ sz : Nat, zM l y (zT y bytes maxL ret) rm 0 0 D K M As wc sz (zQl D K M r w1)) (is : List Nat) (hC : is.map (fun i => ws[i]?) = wc.map some) (hn : is.Nodup) {as : List Nat} (hf1 : w1.map Prod.fst = as) (hf2 : wc.map Prod.fst = as) (hw : zset ws is w1 = ws')  (cw : CallB R s args own index y bytes maxL ret (zT y bytes maxL ret) rm 0 0 n ∧ (Cond.static y).before args s = true) (hlen : As.length = n) (hst : st0 = (As.reverse ++ rest)) (hroom : (rest.map fun v => v.category).sum ≤ 8) (hdg : decode cc pc = .ok (.invokestatic index, 3)) (hf : cells ≤ R.cells ∧ slots ≤ R.slots) (k : zW p l e R s m args below meth c D A cells slots Q nL ws' lv (pc + 3) (.long r :: rest)) : zW p l e R s m args below meth c D A cells slots Q nL ws lv pc st0 := fun H locs ls h1 h2 h3 h4 => by
  subst hst
  obtain ⟨hPc, hDc⟩ := zsubP h2 h3 is hC hn
  have hFc := zfree h3 h4 hF.2.2.2.2.2.2 is hC
  have hKc := hF.2.2.2.2.2.1
  refine va_calll (va_runS ⟨hF.1, hF.2.1, hF.2.2.1, hF.2.2.2.1, hF.2.2.2.2.1⟩ (hM H.size) cw ⟨zx_blind, fun U hU hW => ⟨rfl, by rw [hU], by rw [hU]; exact hPc, va_K.moved hW.alike hKc, hDc.weaken (fun _ _ _ _ => trivial)⟩⟩ rfl hlen h1.1 rfl (lv_room hroom) hdg ⟨hf.1, hf.2⟩) h4 (fun q _ h => hFc q h) hFc (fun r9 u t H1 locs1 ht hvm hp hB hz hk hS => ?_)
  subst hp
  obtain ⟨hP1, hK1, hD1⟩ := hB
  rw [ht] at hP1
  obtain ⟨hP2, hD2⟩ := zjoin (wn := []) h2 h3 is hC hn (hf1.trans hf2.symm) hk hFc (by rw [List.append_nil]; exact hP1) (by rw [List.append_nil]; exact hD1)
  rw [List.append_nil, hw] at hP2 hD2
  exact k H1 locs1 ls h1 hP2 hD2 hS
theorem zx_Sv (hF : zF p s m args c cc nL own D K M A) {y : MethodName} {index maxL n : Nat} {bytes : ByteArray} {ret : Option FieldType} {rm : Room}  {As st0 : List Value}  {wc w1 ws' : va_W} (hM : ∀ sz : Nat, zM l y (zT y bytes maxL ret) rm 0 0 D K M As wc sz (zQv D K M w1)) (is : List Nat) (hC : is.map (fun i => ws[i]?) = wc.map some) (hn : is.Nodup) {as : List Nat} (hf1 : w1.map Prod.fst = as) (hf2 : wc.map Prod.fst = as) (hw : zset ws is w1 = ws')  (cw : CallB R s args own index y bytes maxL ret (zT y bytes maxL ret) rm 0 0 n ∧ (Cond.static y).before args s = true) (hlen : As.length = n) (hst : st0 = (As.reverse ++ rest)) (hroom : (rest.map fun v => v.category).sum ≤ 8) (hdg : decode cc pc = .ok (.invokestatic index, 3)) (hf : cells ≤ R.cells ∧ slots ≤ R.slots) (k : zW p l e R s m args below meth c D A cells slots Q nL ws' lv (pc + 3) rest) : zW p l e R s m args below meth c D A cells slots Q nL ws lv pc st0 := fun H locs ls h1 h2 h3 h4 => by
  subst hst
  obtain ⟨hPc, hDc⟩ := zsubP h2 h3 is hC hn
  have hFc := zfree h3 h4 hF.2.2.2.2.2.2 is hC
  have hKc := hF.2.2.2.2.2.1
  refine va_callv (va_runS ⟨hF.1, hF.2.1, hF.2.2.1, hF.2.2.2.1, hF.2.2.2.2.1⟩ (hM H.size) cw ⟨zx_blind, fun U hU hW => ⟨rfl, by rw [hU], by rw [hU]; exact hPc, va_K.moved hW.alike hKc, hDc.weaken (fun _ _ _ _ => trivial)⟩⟩ rfl hlen h1.1 rfl (lv_room hroom) hdg ⟨hf.1, hf.2⟩) h4 (fun q _ h => hFc q h) hFc (fun u t H1 locs1 ht hvm hp hB hz hk hS => ?_)
  clear hp
  obtain ⟨hP1, hK1, hD1⟩ := hB
  rw [ht] at hP1
  obtain ⟨hP2, hD2⟩ := zjoin (wn := []) h2 h3 is hC hn (hf1.trans hf2.symm) hk hFc (by rw [List.append_nil]; exact hP1) (by rw [List.append_nil]; exact hD1)
  rw [List.append_nil, hw] at hP2 hD2
  exact k H1 locs1 ls h1 hP2 hD2 hS
abbrev zR (f n : Nat) : Room := { frames := f, cells := 0, slots := 0, locals := n }
theorem zinc (i : Nat) : nI i + Int32.ofInt 1 = nI (i + 1) := nI_1 i
theorem zbool {x : Int32} (h : x = 0 ∨ x = 1) : narrow .boolean (.int x) = .int x ∧ fits .boolean (.int x) = true := by rcases h with h | h <;> subst h <;> decide
theorem znar {x : Int32} (h : x = 0 ∨ x = 1) : vp_nar .boolean x = x := by rcases h with h | h <;> subst h <;> decide
def ziushr (x y : Int32) : Int32 := (x.toUInt32 >>> (y.toUInt32 &&& Int32.toUInt32 31)).toInt32
def zlushr (x : Int64) (y : Int32) : Int64 := (x.toUInt64 >>> (y.toInt64.toUInt64 &&& Int64.toUInt64 63)).toInt64
def zlshl (x : Int64) (y : Int32) : Int64 := x <<< (y.toInt64 &&& 63)
theorem zx_loop {σ : Type} (I : Nat → σ → Prop) (wf : σ → va_W) (lf : σ → List (Nat × Value)) {st : List Value} (k0 : Nat) (x0 : σ) (h0 : I k0 x0) (hw : ws = wf x0) (hl : lv = lf x0) (step : ∀ (k : Nat) (x : σ), I k x → (∀ (k' : Nat) (x' : σ), k' < k → I k' x' → zW p l e R s m args below meth c D A cells slots Q nL (wf x') (lf x') pc st) → zW p l e R s m args below meth c D A cells slots Q nL (wf x) (lf x) pc st) : zW p l e R s m args below meth c D A cells slots Q nL ws lv pc st := by
  subst hw; subst hl
  have key : ∀ (k : Nat) (x : σ), I k x → zW p l e R s m args below meth c D A cells slots Q nL (wf x) (lf x) pc st := by
    intro k
    induction k using Nat.strongRecOn with
    | _ k ih =>
      intro x hx
      exact step k x hx (fun k' x' hk' hx' => ih k' hk' x' hx')
  exact key k0 x0 h0
theorem zin {x : Int32} {n : Nat} (hn : n < 2 ^ 31) (h0 : ¬ x < 0) (h1 : ¬ nI n ≤ x) : vp_in x n := by
  obtain ⟨j, hj, rfl⟩ := nI_of h0
  exact vp_in_nI (Nat.lt_of_not_le (fun z => h1 (nI_le z hj))) hn
theorem zcl {x : Int32} {n : Nat} (hn : n < 2 ^ 31) (h : vp_in x n) : x = nI x.toNatClampNeg ∧ x.toNatClampNeg < n := by
  obtain ⟨j, hj, rfl⟩ := vp_in_of h hn
  rw [nI_clamp (Nat.lt_trans hj hn)]
  exact ⟨rfl, hj⟩
theorem zx_copy (hF : zF p s m args c cc nL own D K M A) {index : Nat} (hl : Cond.methodLink own index arraycopyName ∈ zAll) (q0 q1 : Nat) {a0 a n0 n1 : Nat} {f g : Nat → Int32} (ha0 : ws[q0]? = some (cI K a0 n0 f)) (ha1 : ws[q1]? = some (cI K a n1 g)) {sp dp n : Nat} (h4 : sp + n ≤ n0) (h5 : dp + n ≤ n1) (hn0 : n0 < 2 ^ 31) (hn1 : n1 < 2 ^ 31) (hframes : 1 ≤ R.frames) (hlocals : (rest.map fun v => v.category).sum + (nativeFrameWords "java/lang/System" "arraycopy" 5 + 11) ≤ R.locals) (hdg : decode cc pc = .ok (.invokestatic index, 3)) {ws' : va_W} (hw : ws.set q1 (cI K a n1 (va_cpy f g sp dp n)) = ws') (k : zW p l e R s m args below meth c D A cells slots Q nL ws' lv (pc + 3) rest) : zW p l e R s m args below meth c D A cells slots Q nL ws lv pc (.int (nI n) :: .int (nI dp) :: .ref a :: .int (nI sp) :: .ref a0 :: rest) := fun _ _ _ h1 h2 h3 g4 => by
  have e1 : (nI sp).toNatClampNeg = sp := nI_clamp (by omega)
  have e2 : (nI dp).toNatClampNeg = dp := nI_clamp (by omega)
  have e3 : (nI n).toNatClampNeg = n := nI_clamp (by omega)
  refine va_copyi hF.1 hF.2.1 (by rw [hF.2.2.1]; exact h1.1.symm) hF.2.2.2.1 (zw hF hl) (zw hF wx_copy_native) (zw hF wx_copy_static) (zw hF wx_copy_init) hF.2.2.2.2.2.1 h2 h3 g4 q0 q1 0 0 ha0 ha1 rfl rfl rfl (nI_pos (by omega)) (nI_pos (by omega)) (nI_pos (by omega)) (by rw [e1, e3]; exact h4) (by rw [e2, e3]; exact h5) (fun _ _ => rfl) hframes hlocals hdg (fun _ _ h5 h6 h7 => k _ _ _ h1 ?_ ?_ h7)
  · rw [← hw, ← e1, ← e2, ← e3]; exact h5
  · rw [← hw, ← e1, ← e2, ← e3]; exact h6
end ZX
