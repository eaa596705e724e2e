section
variable {p : Program} {l : Launch} {e : Env} {R : Room} {s : State} {m : MethodId} {args : Array Value} {below : List Frame} {meth : Method} {c : Code} {cc : ByteArray} {nL : Nat} {own : String} {D : va_G} {cy : Nat → ClassId} {n0 : Nat} {ad : Nat → Nat → Nat} {nT nO : Nat} {σ : Sg} {H : Heap} {locs : List Loc} {cells slots pc : Nat} {ls : Array Slot} {rest : List Value} {β : Type} {Qf : β → State → Prop} {o o1 o2 : Option β}
theorem s_iadd (C0 : Cx p l s m args meth c cc nL own D cy n0) {x y : Int32} (hdg : decode cc pc = .ok (.iadd, 1))  (k : Sm Qf o p l e R s m args below meth c H locs cells slots (F0 m (pc + 1) ls (.int (x + y) :: rest))) : Sm Qf o p l e R s m args below meth c H locs cells slots (F0 m pc ls (.int y :: .int x :: rest)) := fun r h => lv_iadd C0.1.1 C0.1.2.1 hdg  (k r h)
theorem s_isub (C0 : Cx p l s m args meth c cc nL own D cy n0) {x y : Int32} (hdg : decode cc pc = .ok (.isub, 1))  (k : Sm Qf o p l e R s m args below meth c H locs cells slots (F0 m (pc + 1) ls (.int (x - y) :: rest))) : Sm Qf o p l e R s m args below meth c H locs cells slots (F0 m pc ls (.int y :: .int x :: rest)) := fun r h => lv_isub C0.1.1 C0.1.2.1 hdg  (k r h)
theorem s_imul (C0 : Cx p l s m args meth c cc nL own D cy n0) {x y : Int32} (hdg : decode cc pc = .ok (.imul, 1))  (k : Sm Qf o p l e R s m args below meth c H locs cells slots (F0 m (pc + 1) ls (.int (x * y) :: rest))) : Sm Qf o p l e R s m args below meth c H locs cells slots (F0 m pc ls (.int y :: .int x :: rest)) := fun r h => lv_imul C0.1.1 C0.1.2.1 hdg  (k r h)
theorem s_iand (C0 : Cx p l s m args meth c cc nL own D cy n0) {x y : Int32} (hdg : decode cc pc = .ok (.iand, 1))  (k : Sm Qf o p l e R s m args below meth c H locs cells slots (F0 m (pc + 1) ls (.int (x &&& y) :: rest))) : Sm Qf o p l e R s m args below meth c H locs cells slots (F0 m pc ls (.int y :: .int x :: rest)) := fun r h => lv_iand C0.1.1 C0.1.2.1 hdg  (k r h)
theorem s_ior (C0 : Cx p l s m args meth c cc nL own D cy n0) {x y : Int32} (hdg : decode cc pc = .ok (.ior, 1))  (k : Sm Qf o p l e R s m args below meth c H locs cells slots (F0 m (pc + 1) ls (.int (x ||| y) :: rest))) : Sm Qf o p l e R s m args below meth c H locs cells slots (F0 m pc ls (.int y :: .int x :: rest)) := fun r h => lv_ior C0.1.1 C0.1.2.1 hdg  (k r h)
theorem s_ladd (C0 : Cx p l s m args meth c cc nL own D cy n0) {x y : Int64} (hdg : decode cc pc = .ok (.ladd, 1))  (k : Sm Qf o p l e R s m args below meth c H locs cells slots (F0 m (pc + 1) ls (.long (x + y) :: rest))) : Sm Qf o p l e R s m args below meth c H locs cells slots (F0 m pc ls (.long y :: .long x :: rest)) := fun r h => lv_ladd C0.1.1 C0.1.2.1 hdg  (k r h)
theorem s_lmul (C0 : Cx p l s m args meth c cc nL own D cy n0) {x y : Int64} (hdg : decode cc pc = .ok (.lmul, 1))  (k : Sm Qf o p l e R s m args below meth c H locs cells slots (F0 m (pc + 1) ls (.long (x * y) :: rest))) : Sm Qf o p l e R s m args below meth c H locs cells slots (F0 m pc ls (.long y :: .long x :: rest)) := fun r h => lv_lmul C0.1.1 C0.1.2.1 hdg  (k r h)
theorem s_iconst (C0 : Cx p l s m args meth c cc nL own D cy n0) {n : Int} {v : Int32} (hdg : decode cc pc = .ok (.iconst n, 1)) (hv : Int32.ofInt n = v) (k : Sm Qf o p l e R s m args below meth c H locs cells slots (F0 m (pc + 1) ls (.int v :: rest))) : Sm Qf o p l e R s m args below meth c H locs cells slots (F0 m pc ls (rest)) := fun r h => lv_iconst C0.1.1 C0.1.2.1 hdg hv (k r h)
theorem s_lconst (C0 : Cx p l s m args meth c cc nL own D cy n0) {n : Fin 2} {v : Int64} (hdg : decode cc pc = .ok (.lconst n, 1)) (hv : Int64.ofNat (n : Nat) = v) (k : Sm Qf o p l e R s m args below meth c H locs cells slots (F0 m (pc + 1) ls (.long v :: rest))) : Sm Qf o p l e R s m args below meth c H locs cells slots (F0 m pc ls (rest)) := fun r h => lv_lconst C0.1.1 C0.1.2.1 hdg hv (k r h)
theorem s_bipush (C0 : Cx p l s m args meth c cc nL own D cy n0) {n : Int} {v : Int32} (hdg : decode cc pc = .ok (.bipush n, 2)) (hv : (Int8.ofInt n).toInt32 = v) (k : Sm Qf o p l e R s m args below meth c H locs cells slots (F0 m (pc + 2) ls (.int v :: rest))) : Sm Qf o p l e R s m args below meth c H locs cells slots (F0 m pc ls (rest)) := fun r h => lv_bipush C0.1.1 C0.1.2.1 hdg hv (k r h)
theorem s_sipush (C0 : Cx p l s m args meth c cc nL own D cy n0) {n : Int} {v : Int32} (hdg : decode cc pc = .ok (.sipush n, 3)) (hv : (Int16.ofInt n).toInt32 = v) (k : Sm Qf o p l e R s m args below meth c H locs cells slots (F0 m (pc + 3) ls (.int v :: rest))) : Sm Qf o p l e R s m args below meth c H locs cells slots (F0 m pc ls (rest)) := fun r h => lv_sipush C0.1.1 C0.1.2.1 hdg hv (k r h)
theorem s_iload_n (C0 : Cx p l s m args meth c cc nL own D cy n0) {k : Fin 4} {i : Nat} {x : Int32} (hdg : decode cc pc = .ok (.iload_n k, 1)) (hi : (k : Nat) = i) (hl : ls[i]? = some (.val (.int x))) (k : Sm Qf o p l e R s m args below meth c H locs cells slots (F0 m (pc + 1) ls (.int x :: rest))) : Sm Qf o p l e R s m args below meth c H locs cells slots (F0 m pc ls (rest)) := fun r h => lv_iload_n C0.1.1 C0.1.2.1 hdg hi hl (k r h)
theorem s_iload (C0 : Cx p l s m args meth c cc nL own D cy n0) {i : Nat} {x : Int32} (hdg : decode cc pc = .ok (.iload i, 2)) (hl : ls[i]? = some (.val (.int x))) (k : Sm Qf o p l e R s m args below meth c H locs cells slots (F0 m (pc + 2) ls (.int x :: rest))) : Sm Qf o p l e R s m args below meth c H locs cells slots (F0 m pc ls (rest)) := fun r h => lv_iload C0.1.1 C0.1.2.1 hdg hl (k r h)
theorem s_lload_n (C0 : Cx p l s m args meth c cc nL own D cy n0) {k : Fin 4} {i : Nat} {x : Int64} (hdg : decode cc pc = .ok (.lload_n k, 1)) (hi : (k : Nat) = i) (hl : ls[i]? = some (.val (.long x))) (k : Sm Qf o p l e R s m args below meth c H locs cells slots (F0 m (pc + 1) ls (.long x :: rest))) : Sm Qf o p l e R s m args below meth c H locs cells slots (F0 m pc ls (rest)) := fun r h => lv_lload_n C0.1.1 C0.1.2.1 hdg hi hl (k r h)
theorem s_aload_n (C0 : Cx p l s m args meth c cc nL own D cy n0) {k : Fin 4} {i : Nat} {x : Nat} (hdg : decode cc pc = .ok (.aload_n k, 1)) (hi : (k : Nat) = i) (hl : ls[i]? = some (.val (.ref x))) (k : Sm Qf o p l e R s m args below meth c H locs cells slots (F0 m (pc + 1) ls (.ref x :: rest))) : Sm Qf o p l e R s m args below meth c H locs cells slots (F0 m pc ls (rest)) := fun r h => lv_aload_n C0.1.1 C0.1.2.1 hdg hi hl (k r h)
theorem s_aload (C0 : Cx p l s m args meth c cc nL own D cy n0) {i : Nat} {x : Nat} (hdg : decode cc pc = .ok (.aload i, 2)) (hl : ls[i]? = some (.val (.ref x))) (k : Sm Qf o p l e R s m args below meth c H locs cells slots (F0 m (pc + 2) ls (.ref x :: rest))) : Sm Qf o p l e R s m args below meth c H locs cells slots (F0 m pc ls (rest)) := fun r h => lv_aload C0.1.1 C0.1.2.1 hdg hl (k r h)
theorem s_fload (C0 : Cx p l s m args meth c cc nL own D cy n0) {i : Nat} {x : UInt32} (hdg : decode cc pc = .ok (.fload i, 2)) (hl : ls[i]? = some (.val (.float x))) (k : Sm Qf o p l e R s m args below meth c H locs cells slots (F0 m (pc + 2) ls (.float x :: rest))) : Sm Qf o p l e R s m args below meth c H locs cells slots (F0 m pc ls (rest)) := fun r h => lv_fload C0.1.1 C0.1.2.1 hdg hl (k r h)
theorem s_dload (C0 : Cx p l s m args meth c cc nL own D cy n0) {i : Nat} {x : UInt64} (hdg : decode cc pc = .ok (.dload i, 2)) (hl : ls[i]? = some (.val (.double x))) (k : Sm Qf o p l e R s m args below meth c H locs cells slots (F0 m (pc + 2) ls (.double x :: rest))) : Sm Qf o p l e R s m args below meth c H locs cells slots (F0 m pc ls (rest)) := fun r h => lv_dload C0.1.1 C0.1.2.1 hdg hl (k r h)
theorem s_dup (C0 : Cx p l s m args meth c cc nL own D cy n0) {va : Value} (hdg : decode cc pc = .ok (.dup, 1)) (hva : va.category = 1) (k : Sm Qf o p l e R s m args below meth c H locs cells slots (F0 m (pc + 1) ls (va :: va :: rest))) : Sm Qf o p l e R s m args below meth c H locs cells slots (F0 m pc ls (va :: rest)) := fun r h => lv_dup C0.1.1 C0.1.2.1 hdg hva (k r h)
theorem s_dup2 (C0 : Cx p l s m args meth c cc nL own D cy n0) {va vb : Value} (hdg : decode cc pc = .ok (.dup2, 1)) (hva : va.category = 1) (hvb : vb.category = 1) (k : Sm Qf o p l e R s m args below meth c H locs cells slots (F0 m (pc + 1) ls (va :: vb :: va :: vb :: rest))) : Sm Qf o p l e R s m args below meth c H locs cells slots (F0 m pc ls (va :: vb :: rest)) := fun r h => lv_dup2_11 C0.1.1 C0.1.2.1 hdg hva hvb (k r h)
theorem s_i2l (C0 : Cx p l s m args meth c cc nL own D cy n0) {x : Int32} {v : Int64} (hdg : decode cc pc = .ok (.i2l, 1)) (hv : x.toInt64 = v) (k : Sm Qf o p l e R s m args below meth c H locs cells slots (F0 m (pc + 1) ls (.long v :: rest))) : Sm Qf o p l e R s m args below meth c H locs cells slots (F0 m pc ls (.int x :: rest)) := fun r h => lv_i2l C0.1.1 C0.1.2.1 hdg hv (k r h)
theorem s_l2i (C0 : Cx p l s m args meth c cc nL own D cy n0) {x : Int64} {v : Int32} (hdg : decode cc pc = .ok (.l2i, 1)) (hv : x.toInt32 = v) (k : Sm Qf o p l e R s m args below meth c H locs cells slots (F0 m (pc + 1) ls (.int v :: rest))) : Sm Qf o p l e R s m args below meth c H locs cells slots (F0 m pc ls (.long x :: rest)) := fun r h => lv_l2i C0.1.1 C0.1.2.1 hdg hv (k r h)
theorem s_i2c (C0 : Cx p l s m args meth c cc nL own D cy n0) {x : Int32} {v : Int32} (hdg : decode cc pc = .ok (.i2c, 1)) (hv : (x.toUInt32 % 65536).toInt32 = v) (k : Sm Qf o p l e R s m args below meth c H locs cells slots (F0 m (pc + 1) ls (.int v :: rest))) : Sm Qf o p l e R s m args below meth c H locs cells slots (F0 m pc ls (.int x :: rest)) := fun r h => lv_i2c C0.1.1 C0.1.2.1 hdg hv (k r h)
theorem s_i2f (C0 : Cx p l s m args meth c cc nL own D cy n0) {x : Int32} (hdg : decode cc pc = .ok (.i2f, 1))  (k : Sm Qf o p l e R s m args below meth c H locs cells slots (F0 m (pc + 1) ls (.float (FP.i2f x) :: rest))) : Sm Qf o p l e R s m args below meth c H locs cells slots (F0 m pc ls (.int x :: rest)) := fun r h => lv_i2f C0.1.1 C0.1.2.1 hdg  (k r h)
theorem s_i2d (C0 : Cx p l s m args meth c cc nL own D cy n0) {x : Int32} (hdg : decode cc pc = .ok (.i2d, 1))  (k : Sm Qf o p l e R s m args below meth c H locs cells slots (F0 m (pc + 1) ls (.double (FP.i2d x) :: rest))) : Sm Qf o p l e R s m args below meth c H locs cells slots (F0 m pc ls (.int x :: rest)) := fun r h => lv_i2d C0.1.1 C0.1.2.1 hdg  (k r h)
theorem s_lcmp (C0 : Cx p l s m args meth c cc nL own D cy n0) {x y : Int64} (hdg : decode cc pc = .ok (.lcmp, 1))  (k : Sm Qf o p l e R s m args below meth c H locs cells slots (F0 m (pc + 1) ls (.int (lg_cmp x y) :: rest))) : Sm Qf o p l e R s m args below meth c H locs cells slots (F0 m pc ls (.long y :: .long x :: rest)) := fun r h => W.lcmp C0.1.1 C0.1.2.1 hdg  (k r h)
theorem s_dcmp (C0 : Cx p l s m args meth c cc nL own D cy n0) {x y : UInt64} {op : CmpOp} (hdg : decode cc pc = .ok (.dcmp op, 1))  (k : Sm Qf o p l e R s m args below meth c H locs cells slots (F0 m (pc + 1) ls (.int (Op.cmpValue (FP.dcmp x y) op) :: rest))) : Sm Qf o p l e R s m args below meth c H locs cells slots (F0 m pc ls (.double y :: .double x :: rest)) := fun r h => lv_dcmp C0.1.1 C0.1.2.1 hdg  (k r h)
theorem s_fcmp (C0 : Cx p l s m args meth c cc nL own D cy n0) {x y : UInt32} {op : CmpOp} (hdg : decode cc pc = .ok (.fcmp op, 1))  (k : Sm Qf o p l e R s m args below meth c H locs cells slots (F0 m (pc + 1) ls (.int (Op.cmpValue (FP.fcmp x y) op) :: rest))) : Sm Qf o p l e R s m args below meth c H locs cells slots (F0 m pc ls (.float y :: .float x :: rest)) := fun r h => lv_fcmp C0.1.1 C0.1.2.1 hdg  (k r h)
theorem s_pop (C0 : Cx p l s m args meth c cc nL own D cy n0) {va : Value} (hdg : decode cc pc = .ok (.pop, 1)) (hva : va.category = 1) (k : Sm Qf o p l e R s m args below meth c H locs cells slots (F0 m (pc + 1) ls (rest))) : Sm Qf o p l e R s m args below meth c H locs cells slots (F0 m pc ls (va :: rest)) := fun r h => lv_pop C0.1.1 C0.1.2.1 hdg hva (k r h)
theorem s_pop2 (C0 : Cx p l s m args meth c cc nL own D cy n0) {va : Value} (hdg : decode cc pc = .ok (.pop2, 1)) (hva : va.category = 2) (k : Sm Qf o p l e R s m args below meth c H locs cells slots (F0 m (pc + 1) ls (rest))) : Sm Qf o p l e R s m args below meth c H locs cells slots (F0 m pc ls (va :: rest)) := fun r h => lv_pop2_2 C0.1.1 C0.1.2.1 hdg hva (k r h)
theorem s_null (C0 : Cx p l s m args meth c cc nL own D cy n0)  (hdg : decode cc pc = .ok (.aconst_null, 1))  (k : Sm Qf o p l e R s m args below meth c H locs cells slots (F0 m (pc + 1) ls (.null :: rest))) : Sm Qf o p l e R s m args below meth c H locs cells slots (F0 m pc ls (rest)) := fun r h => lv_null C0.1.1 C0.1.2.1 hdg  (k r h)
theorem s_ldc (C0 : Cx p l s m args meth c cc nL own D cy n0) {index : Nat} {v : Int32} (hw : Cond.constant own index v ∈ allw) (hdg : decode cc pc = .ok (.ldc index, 2)) (k : Sm Qf o p l e R s m args below meth c H locs cells slots (F0 m (pc + 2) ls (.int v :: rest))) : Sm Qf o p l e R s m args below meth c H locs cells slots (F0 m pc ls (rest)) := fun r h => lv_ldc C0.1.1 C0.1.2.1 C0.1.2.2.2.1 (C0.1.2.2.2.2 _ hw) hdg (k r h)
theorem s_ldcw (C0 : Cx p l s m args meth c cc nL own D cy n0) {index : Nat} {v : Int32} (hw : Cond.constant own index v ∈ allw) (hdg : decode cc pc = .ok (.ldc_w index, 3)) (k : Sm Qf o p l e R s m args below meth c H locs cells slots (F0 m (pc + 3) ls (.int v :: rest))) : Sm Qf o p l e R s m args below meth c H locs cells slots (F0 m pc ls (rest)) := fun r h => lv_ldcw C0.1.1 C0.1.2.1 C0.1.2.2.2.1 (C0.1.2.2.2.2 _ hw) hdg (k r h)
theorem s_ldc2 (C0 : Cx p l s m args meth c cc nL own D cy n0) {index : Nat} {v : Int64} (hw : Cond.constantLong own index v ∈ allw) (hdg : decode cc pc = .ok (.ldc2_w index, 3)) (k : Sm Qf o p l e R s m args below meth c H locs cells slots (F0 m (pc + 3) ls (.long v :: rest))) : Sm Qf o p l e R s m args below meth c H locs cells slots (F0 m pc ls (rest)) := fun r h => lv_ldc2 C0.1.1 C0.1.2.1 C0.1.2.2.2.1 (C0.1.2.2.2.2 _ hw) hdg (k r h)
theorem s_idiv (C0 : Cx p l s m args meth c cc nL own D cy n0) {x y : Int32} (hdg : decode cc pc = .ok (.idiv, 1)) (k : Sm Qf o p l e R s m args below meth c H locs cells slots (F0 m (pc + 1) ls (.int (x / y) :: rest))) : Sm Qf (if y = 0 then none else o) p l e R s m args below meth c H locs cells slots (F0 m pc ls (.int y :: .int x :: rest)) := by
  intro r h
  by_cases hy : y = 0
  · rw [if_pos hy] at h; cases h
  · rw [if_neg hy] at h; exact lv_idiv C0.1.1 C0.1.2.1 hdg hy (k r h)
theorem s_irem (C0 : Cx p l s m args meth c cc nL own D cy n0) {x y : Int32} (hdg : decode cc pc = .ok (.irem, 1)) (k : Sm Qf o p l e R s m args below meth c H locs cells slots (F0 m (pc + 1) ls (.int (x - x / y * y) :: rest))) : Sm Qf (if y = 0 then none else o) p l e R s m args below meth c H locs cells slots (F0 m pc ls (.int y :: .int x :: rest)) := by
  intro r h
  by_cases hy : y = 0
  · rw [if_pos hy] at h; cases h
  · rw [if_neg hy] at h; exact lv_irem C0.1.1 C0.1.2.1 hdg hy (k r h)
theorem s_lrem (C0 : Cx p l s m args meth c cc nL own D cy n0) {x y : Int64} (hdg : decode cc pc = .ok (.lrem, 1)) (k : Sm Qf o p l e R s m args below meth c H locs cells slots (F0 m (pc + 1) ls (.long (x - x / y * y) :: rest))) : Sm Qf (if y = 0 then none else o) p l e R s m args below meth c H locs cells slots (F0 m pc ls (.long y :: .long x :: rest)) := by
  intro r h
  by_cases hy : y = 0
  · rw [if_pos hy] at h; cases h
  · rw [if_neg hy] at h; exact lv_lrem C0.1.1 C0.1.2.1 hdg hy (k r h)
theorem s_fdiv (C0 : Cx p l s m args meth c cc nL own D cy n0) {x y : UInt32} (hdg : decode cc pc = .ok (.fdiv, 1)) (k : Sm Qf o p l e R s m args below meth c H locs cells slots (F0 m (pc + 1) ls (.float (FP.fdiv x y) :: rest))) : Sm Qf (if (FP.fdiv x y) &&& 0x7fffffff ≤ 0x7f800000 then o else none) p l e R s m args below meth c H locs cells slots (F0 m pc ls (.float y :: .float x :: rest)) := by
  intro r h
  by_cases hy : (FP.fdiv x y) &&& 0x7fffffff ≤ 0x7f800000
  · rw [if_pos hy] at h; exact lv_fdiv C0.1.1 C0.1.2.1 hdg hy (k r h)
  · rw [if_neg hy] at h; cases h
theorem s_ddiv (C0 : Cx p l s m args meth c cc nL own D cy n0) {x y : UInt64} (hdg : decode cc pc = .ok (.ddiv, 1)) (k : Sm Qf o p l e R s m args below meth c H locs cells slots (F0 m (pc + 1) ls (.double (FP.ddiv x y) :: rest))) : Sm Qf (if (FP.ddiv x y) &&& 0x7fffffffffffffff ≤ 0x7ff0000000000000 then o else none) p l e R s m args below meth c H locs cells slots (F0 m pc ls (.double y :: .double x :: rest)) := by
  intro r h
  by_cases hy : (FP.ddiv x y) &&& 0x7fffffffffffffff ≤ 0x7ff0000000000000
  · rw [if_pos hy] at h; exact lv_ddiv C0.1.1 C0.1.2.1 hdg hy (k r h)
  · rw [if_neg hy] at h; cases h
theorem s_f2d (C0 : Cx p l s m args meth c cc nL own D cy n0) {x : UInt32} (hdg : decode cc pc = .ok (.f2d, 1)) (k : Sm Qf o p l e R s m args below meth c H locs cells slots (F0 m (pc + 1) ls (.double (FP.f2d x) :: rest))) : Sm Qf (if (FP.f2d x) &&& 0x7fffffffffffffff ≤ 0x7ff0000000000000 then o else none) p l e R s m args below meth c H locs cells slots (F0 m pc ls (.float x :: rest)) := by
  intro r h
  by_cases hy : (FP.f2d x) &&& 0x7fffffffffffffff ≤ 0x7ff0000000000000
  · rw [if_pos hy] at h; exact lv_f2d C0.1.1 C0.1.2.1 hdg hy (k r h)
  · rw [if_neg hy] at h; cases h
theorem s_istore_n (C0 : Cx p l s m args meth c cc nL own D cy n0) {i : Nat} {k : Fin 4} {x : Int32} {lv lv' : List (Nat × Value)} (hdg : decode cc pc = .ok (.istore_n k, 1)) (hi : (k : Nat) = i) (h : lv_has ls nL lv) (hn : i < nL) (hl : (i, Value.int x) :: lv.filter (fun q => !(q.1 == i) && !(q.1 + 1 == i && q.2.category == 2)) = lv') (kk : ∀ ls' : Array Slot, lv_has ls' nL lv' → Sm Qf o p l e R s m args below meth c H locs cells slots (F0 m (pc + 1) ls' (rest))) : Sm Qf o p l e R s m args below meth c H locs cells slots (F0 m pc ls (.int x :: rest)) := fun r h9 => lv_istore_n C0.1.1 C0.1.2.1 hdg hi h hn hl (fun ls' hl' => kk ls' hl' r h9)
theorem s_istore (C0 : Cx p l s m args meth c cc nL own D cy n0) {i : Nat} {x : Int32} {lv lv' : List (Nat × Value)} (hdg : decode cc pc = .ok (.istore i, 2))  (h : lv_has ls nL lv) (hn : i < nL) (hl : (i, Value.int x) :: lv.filter (fun q => !(q.1 == i) && !(q.1 + 1 == i && q.2.category == 2)) = lv') (kk : ∀ ls' : Array Slot, lv_has ls' nL lv' → Sm Qf o p l e R s m args below meth c H locs cells slots (F0 m (pc + 2) ls' (rest))) : Sm Qf o p l e R s m args below meth c H locs cells slots (F0 m pc ls (.int x :: rest)) := fun r h9 => lv_istore C0.1.1 C0.1.2.1 hdg  h hn hl (fun ls' hl' => kk ls' hl' r h9)
theorem s_astore_n (C0 : Cx p l s m args meth c cc nL own D cy n0) {i : Nat} {k : Fin 4} {x : Nat} {lv lv' : List (Nat × Value)} (hdg : decode cc pc = .ok (.astore_n k, 1)) (hi : (k : Nat) = i) (h : lv_has ls nL lv) (hn : i < nL) (hl : (i, Value.ref x) :: lv.filter (fun q => !(q.1 == i) && !(q.1 + 1 == i && q.2.category == 2)) = lv') (kk : ∀ ls' : Array Slot, lv_has ls' nL lv' → Sm Qf o p l e R s m args below meth c H locs cells slots (F0 m (pc + 1) ls' (rest))) : Sm Qf o p l e R s m args below meth c H locs cells slots (F0 m pc ls (.ref x :: rest)) := fun r h9 => lv_astore_n C0.1.1 C0.1.2.1 hdg hi h hn hl (fun ls' hl' => kk ls' hl' r h9)
theorem s_astore (C0 : Cx p l s m args meth c cc nL own D cy n0) {i : Nat} {x : Nat} {lv lv' : List (Nat × Value)} (hdg : decode cc pc = .ok (.astore i, 2))  (h : lv_has ls nL lv) (hn : i < nL) (hl : (i, Value.ref x) :: lv.filter (fun q => !(q.1 == i) && !(q.1 + 1 == i && q.2.category == 2)) = lv') (kk : ∀ ls' : Array Slot, lv_has ls' nL lv' → Sm Qf o p l e R s m args below meth c H locs cells slots (F0 m (pc + 2) ls' (rest))) : Sm Qf o p l e R s m args below meth c H locs cells slots (F0 m pc ls (.ref x :: rest)) := fun r h9 => lv_astore C0.1.1 C0.1.2.1 hdg  h hn hl (fun ls' hl' => kk ls' hl' r h9)
theorem s_lstore_n (C0 : Cx p l s m args meth c cc nL own D cy n0) {i : Nat} {k : Fin 4} {x : Int64} {lv lv' : List (Nat × Value)} (hdg : decode cc pc = .ok (.lstore_n k, 1)) (hi : (k : Nat) = i) (h : lv_has ls nL lv) (hn : i + 1 < nL) (hl : (i, Value.long x) :: lv.filter (fun q => !(q.1 == i) && (!(q.1 == i + 1) && !(q.1 + 1 == i && q.2.category == 2))) = lv') (kk : ∀ ls' : Array Slot, lv_has ls' nL lv' → Sm Qf o p l e R s m args below meth c H locs cells slots (F0 m (pc + 1) ls' (rest))) : Sm Qf o p l e R s m args below meth c H locs cells slots (F0 m pc ls (.long x :: rest)) := fun r h9 => lv_lstore_n C0.1.1 C0.1.2.1 hdg hi h hn hl (fun ls' hl' => kk ls' hl' r h9)
theorem s_fstore (C0 : Cx p l s m args meth c cc nL own D cy n0) {i : Nat} {x : UInt32} {lv lv' : List (Nat × Value)} (hdg : decode cc pc = .ok (.fstore i, 2))  (h : lv_has ls nL lv) (hn : i < nL) (hl : (i, Value.float x) :: lv.filter (fun q => !(q.1 == i) && !(q.1 + 1 == i && q.2.category == 2)) = lv') (kk : ∀ ls' : Array Slot, lv_has ls' nL lv' → Sm Qf o p l e R s m args below meth c H locs cells slots (F0 m (pc + 2) ls' (rest))) : Sm Qf o p l e R s m args below meth c H locs cells slots (F0 m pc ls (.float x :: rest)) := fun r h9 => lv_fstore C0.1.1 C0.1.2.1 hdg  h hn hl (fun ls' hl' => kk ls' hl' r h9)
theorem s_dstore (C0 : Cx p l s m args meth c cc nL own D cy n0) {i : Nat} {x : UInt64} {lv lv' : List (Nat × Value)} (hdg : decode cc pc = .ok (.dstore i, 2))  (h : lv_has ls nL lv) (hn : i + 1 < nL) (hl : (i, Value.double x) :: lv.filter (fun q => !(q.1 == i) && (!(q.1 == i + 1) && !(q.1 + 1 == i && q.2.category == 2))) = lv') (kk : ∀ ls' : Array Slot, lv_has ls' nL lv' → Sm Qf o p l e R s m args below meth c H locs cells slots (F0 m (pc + 2) ls' (rest))) : Sm Qf o p l e R s m args below meth c H locs cells slots (F0 m pc ls (.double x :: rest)) := fun r h9 => lv_dstore C0.1.1 C0.1.2.1 hdg  h hn hl (fun ls' hl' => kk ls' hl' r h9)
theorem s_iinc (C0 : Cx p l s m args meth c cc nL own D cy n0) {i k : Nat} {n : Int} {x v : Int32} {lv lv' : List (Nat × Value)} (hdg : decode cc pc = .ok (.iinc i n, 3)) (h : lv_has ls nL lv) (hk : lv[k]? = some (i, .int x)) (hv : x + Int32.ofInt n = v) (hn : i < nL) (hl : (i, Value.int v) :: lv.filter (fun q => !(q.1 == i) && !(q.1 + 1 == i && q.2.category == 2)) = lv') (kk : ∀ ls' : Array Slot, lv_has ls' nL lv' → Sm Qf o p l e R s m args below meth c H locs cells slots (F0 m (pc + 3) ls' (rest))) : Sm Qf o p l e R s m args below meth c H locs cells slots (F0 m pc ls (rest)) := fun r h9 => lv_iinc C0.1.1 C0.1.2.1 hdg h hk hv hn hl (fun ls' hl' => kk ls' hl' r h9)
theorem s_goto (C0 : Cx p l s m args meth c cc nL own D cy n0) {off : Int} {tgt : Nat} (hdg : decode cc pc = .ok (.goto off, 3)) (ht : (pc : Int) + off = (tgt : Int)) (k : Sm Qf o p l e R s m args below meth c H locs cells slots (F0 m tgt ls (rest))) : Sm Qf o p l e R s m args below meth c H locs cells slots (F0 m pc ls (rest)) := fun r h => lv_goto C0.1.1 C0.1.2.1 hdg ht (k r h)
theorem s_if_eq (C0 : Cx p l s m args meth c cc nL own D cy n0) {x : Int32} {off : Int} {tgt : Nat} (hdg : decode cc pc = .ok (.ifCond .eq off, 3)) (ht : (pc : Int) + off = (tgt : Int)) (kt : (x = 0) → Sm Qf o1 p l e R s m args below meth c H locs cells slots (F0 m tgt ls (rest))) (kf : ¬ (x = 0) → Sm Qf o2 p l e R s m args below meth c H locs cells slots (F0 m (pc + 3) ls (rest))) : Sm Qf (if x = 0 then o1 else o2) p l e R s m args below meth c H locs cells slots (F0 m pc ls (.int x :: rest)) := by
  intro r h
  refine lv_if_eq C0.1.1 C0.1.2.1 hdg ht (fun hc => ?_) (fun hc => ?_)
  · rw [if_pos hc] at h; exact kt hc r h
  · rw [if_neg hc] at h; exact kf hc r h
theorem s_if_ne (C0 : Cx p l s m args meth c cc nL own D cy n0) {x : Int32} {off : Int} {tgt : Nat} (hdg : decode cc pc = .ok (.ifCond .ne off, 3)) (ht : (pc : Int) + off = (tgt : Int)) (kt : ¬ (x = 0) → Sm Qf o1 p l e R s m args below meth c H locs cells slots (F0 m tgt ls (rest))) (kf : (x = 0) → Sm Qf o2 p l e R s m args below meth c H locs cells slots (F0 m (pc + 3) ls (rest))) : Sm Qf (if x = 0 then o2 else o1) p l e R s m args below meth c H locs cells slots (F0 m pc ls (.int x :: rest)) := by
  intro r h
  refine lv_if_ne C0.1.1 C0.1.2.1 hdg ht (fun hc => ?_) (fun hc => ?_)
  · rw [if_neg hc] at h; exact kt hc r h
  · rw [if_pos hc] at h; exact kf hc r h
theorem s_if_lt (C0 : Cx p l s m args meth c cc nL own D cy n0) {x : Int32} {off : Int} {tgt : Nat} (hdg : decode cc pc = .ok (.ifCond .lt off, 3)) (ht : (pc : Int) + off = (tgt : Int)) (kt : (x < 0) → Sm Qf o1 p l e R s m args below meth c H locs cells slots (F0 m tgt ls (rest))) (kf : ¬ (x < 0) → Sm Qf o2 p l e R s m args below meth c H locs cells slots (F0 m (pc + 3) ls (rest))) : Sm Qf (if x < 0 then o1 else o2) p l e R s m args below meth c H locs cells slots (F0 m pc ls (.int x :: rest)) := by
  intro r h
  refine lv_if_lt C0.1.1 C0.1.2.1 hdg ht (fun hc => ?_) (fun hc => ?_)
  · rw [if_pos hc] at h; exact kt hc r h
  · rw [if_neg hc] at h; exact kf hc r h
theorem s_if_ge (C0 : Cx p l s m args meth c cc nL own D cy n0) {x : Int32} {off : Int} {tgt : Nat} (hdg : decode cc pc = .ok (.ifCond .ge off, 3)) (ht : (pc : Int) + off = (tgt : Int)) (kt : (0 ≤ x) → Sm Qf o1 p l e R s m args below meth c H locs cells slots (F0 m tgt ls (rest))) (kf : ¬ (0 ≤ x) → Sm Qf o2 p l e R s m args below meth c H locs cells slots (F0 m (pc + 3) ls (rest))) : Sm Qf (if 0 ≤ x then o1 else o2) p l e R s m args below meth c H locs cells slots (F0 m pc ls (.int x :: rest)) := by
  intro r h
  refine lv_if_ge C0.1.1 C0.1.2.1 hdg ht (fun hc => ?_) (fun hc => ?_)
  · rw [if_pos hc] at h; exact kt hc r h
  · rw [if_neg hc] at h; exact kf hc r h
theorem s_if_gt (C0 : Cx p l s m args meth c cc nL own D cy n0) {x : Int32} {off : Int} {tgt : Nat} (hdg : decode cc pc = .ok (.ifCond .gt off, 3)) (ht : (pc : Int) + off = (tgt : Int)) (kt : (0 < x) → Sm Qf o1 p l e R s m args below meth c H locs cells slots (F0 m tgt ls (rest))) (kf : ¬ (0 < x) → Sm Qf o2 p l e R s m args below meth c H locs cells slots (F0 m (pc + 3) ls (rest))) : Sm Qf (if 0 < x then o1 else o2) p l e R s m args below meth c H locs cells slots (F0 m pc ls (.int x :: rest)) := by
  intro r h
  refine lv_if_gt C0.1.1 C0.1.2.1 hdg ht (fun hc => ?_) (fun hc => ?_)
  · rw [if_pos hc] at h; exact kt hc r h
  · rw [if_neg hc] at h; exact kf hc r h
theorem s_if_le (C0 : Cx p l s m args meth c cc nL own D cy n0) {x : Int32} {off : Int} {tgt : Nat} (hdg : decode cc pc = .ok (.ifCond .le off, 3)) (ht : (pc : Int) + off = (tgt : Int)) (kt : (x ≤ 0) → Sm Qf o1 p l e R s m args below meth c H locs cells slots (F0 m tgt ls (rest))) (kf : ¬ (x ≤ 0) → Sm Qf o2 p l e R s m args below meth c H locs cells slots (F0 m (pc + 3) ls (rest))) : Sm Qf (if x ≤ 0 then o1 else o2) p l e R s m args below meth c H locs cells slots (F0 m pc ls (.int x :: rest)) := by
  intro r h
  refine lv_if_le C0.1.1 C0.1.2.1 hdg ht (fun hc => ?_) (fun hc => ?_)
  · rw [if_pos hc] at h; exact kt hc r h
  · rw [if_neg hc] at h; exact kf hc r h
theorem s_icmp_eq (C0 : Cx p l s m args meth c cc nL own D cy n0) {x y : Int32} {off : Int} {tgt : Nat} (hdg : decode cc pc = .ok (.if_icmp .eq off, 3)) (ht : (pc : Int) + off = (tgt : Int)) (kt : (x = y) → Sm Qf o1 p l e R s m args below meth c H locs cells slots (F0 m tgt ls (rest))) (kf : ¬ (x = y) → Sm Qf o2 p l e R s m args below meth c H locs cells slots (F0 m (pc + 3) ls (rest))) : Sm Qf (if x = y then o1 else o2) p l e R s m args below meth c H locs cells slots (F0 m pc ls (.int y :: .int x :: rest)) := by
  intro r h
  refine lv_icmp_eq C0.1.1 C0.1.2.1 hdg ht (fun hc => ?_) (fun hc => ?_)
  · rw [if_pos hc] at h; exact kt hc r h
  · rw [if_neg hc] at h; exact kf hc r h
theorem s_icmp_ne (C0 : Cx p l s m args meth c cc nL own D cy n0) {x y : Int32} {off : Int} {tgt : Nat} (hdg : decode cc pc = .ok (.if_icmp .ne off, 3)) (ht : (pc : Int) + off = (tgt : Int)) (kt : ¬ (x = y) → Sm Qf o1 p l e R s m args below meth c H locs cells slots (F0 m tgt ls (rest))) (kf : (x = y) → Sm Qf o2 p l e R s m args below meth c H locs cells slots (F0 m (pc + 3) ls (rest))) : Sm Qf (if x = y then o2 else o1) p l e R s m args below meth c H locs cells slots (F0 m pc ls (.int y :: .int x :: rest)) := by
  intro r h
  refine lv_icmp_ne C0.1.1 C0.1.2.1 hdg ht (fun hc => ?_) (fun hc => ?_)
  · rw [if_neg hc] at h; exact kt hc r h
  · rw [if_pos hc] at h; exact kf hc r h
theorem s_icmp_lt (C0 : Cx p l s m args meth c cc nL own D cy n0) {x y : Int32} {off : Int} {tgt : Nat} (hdg : decode cc pc = .ok (.if_icmp .lt off, 3)) (ht : (pc : Int) + off = (tgt : Int)) (kt : (x < y) → Sm Qf o1 p l e R s m args below meth c H locs cells slots (F0 m tgt ls (rest))) (kf : ¬ (x < y) → Sm Qf o2 p l e R s m args below meth c H locs cells slots (F0 m (pc + 3) ls (rest))) : Sm Qf (if x < y then o1 else o2) p l e R s m args below meth c H locs cells slots (F0 m pc ls (.int y :: .int x :: rest)) := by
  intro r h
  refine lv_icmp_lt C0.1.1 C0.1.2.1 hdg ht (fun hc => ?_) (fun hc => ?_)
  · rw [if_pos hc] at h; exact kt hc r h
  · rw [if_neg hc] at h; exact kf hc r h
theorem s_icmp_ge (C0 : Cx p l s m args meth c cc nL own D cy n0) {x y : Int32} {off : Int} {tgt : Nat} (hdg : decode cc pc = .ok (.if_icmp .ge off, 3)) (ht : (pc : Int) + off = (tgt : Int)) (kt : (y ≤ x) → Sm Qf o1 p l e R s m args below meth c H locs cells slots (F0 m tgt ls (rest))) (kf : ¬ (y ≤ x) → Sm Qf o2 p l e R s m args below meth c H locs cells slots (F0 m (pc + 3) ls (rest))) : Sm Qf (if y ≤ x then o1 else o2) p l e R s m args below meth c H locs cells slots (F0 m pc ls (.int y :: .int x :: rest)) := by
  intro r h
  refine lv_icmp_ge C0.1.1 C0.1.2.1 hdg ht (fun hc => ?_) (fun hc => ?_)
  · rw [if_pos hc] at h; exact kt hc r h
  · rw [if_neg hc] at h; exact kf hc r h
theorem s_icmp_gt (C0 : Cx p l s m args meth c cc nL own D cy n0) {x y : Int32} {off : Int} {tgt : Nat} (hdg : decode cc pc = .ok (.if_icmp .gt off, 3)) (ht : (pc : Int) + off = (tgt : Int)) (kt : (y < x) → Sm Qf o1 p l e R s m args below meth c H locs cells slots (F0 m tgt ls (rest))) (kf : ¬ (y < x) → Sm Qf o2 p l e R s m args below meth c H locs cells slots (F0 m (pc + 3) ls (rest))) : Sm Qf (if y < x then o1 else o2) p l e R s m args below meth c H locs cells slots (F0 m pc ls (.int y :: .int x :: rest)) := by
  intro r h
  refine lv_icmp_gt C0.1.1 C0.1.2.1 hdg ht (fun hc => ?_) (fun hc => ?_)
  · rw [if_pos hc] at h; exact kt hc r h
  · rw [if_neg hc] at h; exact kf hc r h
theorem s_icmp_le (C0 : Cx p l s m args meth c cc nL own D cy n0) {x y : Int32} {off : Int} {tgt : Nat} (hdg : decode cc pc = .ok (.if_icmp .le off, 3)) (ht : (pc : Int) + off = (tgt : Int)) (kt : (x ≤ y) → Sm Qf o1 p l e R s m args below meth c H locs cells slots (F0 m tgt ls (rest))) (kf : ¬ (x ≤ y) → Sm Qf o2 p l e R s m args below meth c H locs cells slots (F0 m (pc + 3) ls (rest))) : Sm Qf (if x ≤ y then o1 else o2) p l e R s m args below meth c H locs cells slots (F0 m pc ls (.int y :: .int x :: rest)) := by
  intro r h
  refine lv_icmp_le C0.1.1 C0.1.2.1 hdg ht (fun hc => ?_) (fun hc => ?_)
  · rw [if_pos hc] at h; exact kt hc r h
  · rw [if_neg hc] at h; exact kf hc r h
theorem s_widen {k n : Nat} {g : JFrame} (h1 : cells ≤ k) (h2 : slots ≤ n) (kk : Sm Qf o p l e R s m args below meth c H locs k n (g)) : Sm Qf o p l e R s m args below meth c H locs cells slots (g) := fun r h => W.widen h1 h2 (kk r h)
theorem s_get (C0 : Cx p l s m args meth c cc nL own D cy n0) (hh : Hp D cy n0 ad nT nO s σ H locs) {kd i ci pos index N : Nat} {Cn : String} {T : u_T} {fs : List Value} {v : Value} (hr : (kd, i) ∈ rl nT nO) (he : ce ad cy σ kd i = .inr (ci, fs)) (hc : kcl[ci]? = some (Cn, T, N)) (hin : ∀ w ∈ u_ws Cn T N, w ∈ allw) (hk : pos < N) (hw : Cond.fieldLink own index (T pos).1 (T pos).2.1 (T pos).2.2.1 ∈ allw) (hv : fs[pos]? = some v) (hdg : decode cc pc = .ok (.getfield index, 3)) (k : Sm Qf o p l e R s m args below meth c H locs cells slots (F0 m (pc + 3) ls (v :: rest))) : Sm Qf o p l e R s m args below meth c H locs cells slots (F0 m pc ls (.ref (ad kd i) :: rest)) := by
  intro r h
  obtain ⟨q, hq, -⟩ := wd_get (ad := ad) (cy := cy) (σ := σ) hr
  rw [he] at hq
  exact va_get C0.1.1 C0.1.2.1 C0.1.2.2.2.2 hin C0.1.2.2.2.1 C0.2.2.1 hh.1 q hq hc pos hk (C0.1.2.2.2.2 _ hw) (fun _ h9 => h9) hv hdg (k r h)
theorem s_put (C0 : Cx p l s m args meth c cc nL own D cy n0) (hh : Hp D cy n0 ad nT nO s σ H locs) {kd i ci pos index N : Nat} {Cn : String} {T : u_T} {fs : List Value} {v : Int32} {ty : FieldType} (hr : (kd, i) ∈ rl nT nO) (he : ce ad cy σ kd i = .inr (ci, fs)) (he2 : cr ad cy σ.2 kd i (upd (σ.1 kd i) pos v) = .inr (ci, fs.set pos (.int v))) (hc : kcl[ci]? = some (Cn, T, N)) (hin : ∀ w ∈ u_ws Cn T N, w ∈ allw) (ty0 : Nat → FieldType) (hty : ∀ k, k < N → parseFieldDescriptor (T k).2.2.1 = some (ty0 k)) (hnm : ∀ a, a < N → ∀ b, b < N → a ≠ b → (T a).2.1 ≠ (T b).2.1) (hk : pos < N) (hw : Cond.fieldLink own index (T pos).1 (T pos).2.1 (T pos).2.2.1 ∈ allw) (hfin : (T pos).2.2.2 = false) (hd : parseFieldDescriptor (T pos).2.2.1 = some ty) (hn : narrow ty (.int v) = .int v) (hfit : fits ty (.int v) = true) (hl : pos < fs.length) (h10 : ¬ kd = 10) (h11 : ¬ kd = 11) (h00 : ¬ kd = 0) (hdg : decode cc pc = .ok (.putfield index, 3)) (kk : ∀ (H1 : Heap) (locs1 : List Loc), Hp D cy n0 ad nT nO s (sv σ kd i pos v) H1 locs1 → Sm Qf o p l e R s m args below meth c H1 locs1 cells slots (F0 m (pc + 3) ls (rest))) : Sm Qf o p l e R s m args below meth c H locs cells slots (F0 m pc ls (.int v :: .ref (ad kd i) :: rest)) := by
  intro r h
  obtain ⟨q, hq, hq2⟩ := wd_get (ad := ad) (cy := cy) (σ := σ) hr
  rw [he] at hq
  refine va_put C0.1.1 C0.1.2.1 C0.1.2.2.2.2 hin ty0 hty hnm C0.1.2.2.2.1 C0.2.2.1 hh.1 hh.2.1 hh.2.2.1 q hq hc pos hk (C0.1.2.2.2.2 _ hw) (fun _ h9 => h9) hfin hd hn hfit hl hdg (fun H1 locs1 hP hD hS => ?_)
  have hs := wd_set (σ' := sv σ kd i pos v) hh.2.1 hq2 (fun k' i' _ hne => ce_sv k' i' hne)
  rw [ce_at, he2] at hs
  rw [hs] at hP
  exact kk H1 locs1 ⟨hP, wd_D hh.2.1, hS, hh.2.2.2.sv _ _ _ _ h10 h11 h00⟩ r h
theorem s_getN (C0 : Cx p l s m args meth c cc nL own D cy n0) (hh : Hp D cy n0 ad nT nO s σ H locs) {kd i ci pos index N : Nat} {Cn : String} {host : String} {T : u_T} {fs : List Value} {v : Value} (hr : (kd, i) ∈ rl nT nO) (he : ce ad cy σ kd i = .inr (ci, fs)) (hc : kcl[ci]? = some (Cn, T, N)) (hin : ∀ w ∈ u_ws Cn T N, w ∈ allw) (hk : pos < N) (hw : Cond.fieldLinkNest own index (T pos).1 (T pos).2.1 (T pos).2.2.1 host ∈ nwl) (hv : fs[pos]? = some v) (hdg : decode cc pc = .ok (.getfield index, 3)) (k : Sm Qf o p l e R s m args below meth c H locs cells slots (F0 m (pc + 3) ls (v :: rest))) : Sm Qf o p l e R s m args below meth c H locs cells slots (F0 m pc ls (.ref (ad kd i) :: rest)) := by
  intro r h
  obtain ⟨q, hq, -⟩ := wd_get (ad := ad) (cy := cy) (σ := σ) hr
  rw [he] at hq
  exact va_getN C0.1.1 C0.1.2.1 C0.1.2.2.2.2 hin C0.1.2.2.2.1 C0.2.2.1 hh.1 q hq hc pos hk (va_Nw.use (nwk_tab (List.mem_filter.mp hw).2) (C0.2.2.2.2.2.1.1 _ hw)) (fun _ h9 => h9) hv hdg (k r h)
theorem s_putN (C0 : Cx p l s m args meth c cc nL own D cy n0) (hh : Hp D cy n0 ad nT nO s σ H locs) {kd i ci pos index N : Nat} {Cn : String} {host : String} {T : u_T} {fs : List Value} {v : Int32} {ty : FieldType} (hr : (kd, i) ∈ rl nT nO) (he : ce ad cy σ kd i = .inr (ci, fs)) (he2 : cr ad cy σ.2 kd i (upd (σ.1 kd i) pos v) = .inr (ci, fs.set pos (.int v))) (hc : kcl[ci]? = some (Cn, T, N)) (hin : ∀ w ∈ u_ws Cn T N, w ∈ allw) (ty0 : Nat → FieldType) (hty : ∀ k, k < N → parseFieldDescriptor (T k).2.2.1 = some (ty0 k)) (hnm : ∀ a, a < N → ∀ b, b < N → a ≠ b → (T a).2.1 ≠ (T b).2.1) (hk : pos < N) (hw : Cond.fieldLinkNest own index (T pos).1 (T pos).2.1 (T pos).2.2.1 host ∈ nwl) (hfin : (T pos).2.2.2 = false) (hd : parseFieldDescriptor (T pos).2.2.1 = some ty) (hn : narrow ty (.int v) = .int v) (hfit : fits ty (.int v) = true) (hl : pos < fs.length) (h10 : ¬ kd = 10) (h11 : ¬ kd = 11) (h00 : ¬ kd = 0) (hdg : decode cc pc = .ok (.putfield index, 3)) (kk : ∀ (H1 : Heap) (locs1 : List Loc), Hp D cy n0 ad nT nO s (sv σ kd i pos v) H1 locs1 → Sm Qf o p l e R s m args below meth c H1 locs1 cells slots (F0 m (pc + 3) ls (rest))) : Sm Qf o p l e R s m args below meth c H locs cells slots (F0 m pc ls (.int v :: .ref (ad kd i) :: rest)) := by
  intro r h
  obtain ⟨q, hq, hq2⟩ := wd_get (ad := ad) (cy := cy) (σ := σ) hr
  rw [he] at hq
  refine va_putN C0.1.1 C0.1.2.1 C0.1.2.2.2.2 hin ty0 hty hnm C0.1.2.2.2.1 C0.2.2.1 hh.1 hh.2.1 hh.2.2.1 q hq hc pos hk (va_Nw.use (nwk_tab (List.mem_filter.mp hw).2) (C0.2.2.2.2.2.1.1 _ hw)) (fun _ h9 => h9) hfin hd hn hfit hl hdg (fun H1 locs1 hP hD hS => ?_)
  have hs := wd_set (σ' := sv σ kd i pos v) hh.2.1 hq2 (fun k' i' _ hne => ce_sv k' i' hne)
  rw [ce_at, he2] at hs
  rw [hs] at hP
  exact kk H1 locs1 ⟨hP, wd_D hh.2.1, hS, hh.2.2.2.sv _ _ _ _ h10 h11 h00⟩ r h
theorem s_putz (C0 : Cx p l s m args meth c cc nL own D cy n0) (hh : Hp D cy n0 ad nT nO s σ H locs) {index : Nat} {v : Int64} (hin : ∀ w ∈ u_ws RX3 TX3 6, w ∈ allw) (hw : Cond.fieldLink own index (TX3 4).1 (TX3 4).2.1 (TX3 4).2.2.1 ∈ allw) (hdg : decode cc pc = .ok (.putfield index, 3)) (kk : ∀ (H1 : Heap) (locs1 : List Loc), Hp D cy n0 ad nT nO s (svz σ v) H1 locs1 → Sm Qf o p l e R s m args below meth c H1 locs1 cells slots (F0 m (pc + 3) ls (rest))) : Sm Qf o p l e R s m args below meth c H locs cells slots (F0 m pc ls (.long v :: .ref (ad 0 0) :: rest)) := by
  intro r h
  have hr : (0, 0) ∈ rl nT nO := rl_b (by decide)
  obtain ⟨q, hq, hq2⟩ := wd_get (ad := ad) (cy := cy) (σ := σ) hr
  refine va_put C0.1.1 C0.1.2.1 C0.1.2.2.2.2 hin tyX3 tyX3_ok nmX3 C0.1.2.2.2.1 C0.2.2.1 hh.1 hh.2.1 hh.2.2.1 q hq (ci := 3) rfl 4 (by decide) (C0.1.2.2.2.2 _ hw) (fun _ h9 => h9) rfl (ty := .long) (by decide +kernel) rfl rfl (Nat.le_of_ble_eq_true rfl) hdg (fun H1 locs1 hP hD hS => ?_)
  have hs := wd_set (σ' := svz σ v) hh.2.1 hq2 (fun k' i' hm hne => ce_svz k' i' (fun hk => hne ⟨hk, rl_z hm (Or.inl hk)⟩))
  have hs2 : ce ad cy (svz σ v) 0 0 = .inr (3, [.ref (ad 10 0), .int (σ.1 0 0 1), .ref (ad 11 0), .int (σ.1 0 0 3), .long v, .ref (ad 2 8)]) := rfl
  rw [hs2] at hs
  have hP2 := hP
  refine kk H1 locs1 ⟨?_, wd_D hh.2.1, hS, hh.2.2.2⟩ r h
  rw [← hs]
  exact hP2
theorem s_iald (C0 : Cx p l s m args meth c cc nL own D cy n0) (hh : Hp D cy n0 ad nT nO s σ H locs) {kd i N t0 : Nat} {cA : ClassId} {j : Int32} {g : Nat → Int32} (hg : σ.1 kd i = g) (hr : (kd, i) ∈ rl nT nO) (he : ∀ g, cr ad cy σ.2 kd i g = .inl (cA, N, .inl g)) (ht : (tyl cy)[t0]? = some (cA, .int)) (hdg : decode cc pc = .ok (.iaload, 1)) (k : Sm Qf o p l e R s m args below meth c H locs cells slots (F0 m (pc + 1) ls (.int (g j.toNatClampNeg) :: rest))) : Sm Qf (if j < 0 ∨ N ≤ j.toNatClampNeg then none else o) p l e R s m args below meth c H locs cells slots (F0 m pc ls (.int j :: .ref (ad kd i) :: rest)) := by
  intro r h
  subst hg
  by_cases hj : j < 0 ∨ N ≤ j.toNatClampNeg
  · rw [if_pos hj] at h; cases h
  · rw [if_neg hj] at h
    obtain ⟨q, hq, -⟩ := wd_get (ad := ad) (cy := cy) (σ := σ) hr
    rw [show ce ad cy σ kd i = _ from he _] at hq
    exact va_iald C0.1.1 C0.1.2.1 C0.2.2.1 hh.1 q t0 hq ht hj hdg (k r h)
theorem s_iast (C0 : Cx p l s m args meth c cc nL own D cy n0) (hh : Hp D cy n0 ad nT nO s σ H locs) {kd i N t0 : Nat} {cA : ClassId} {j x : Int32} (hr : (kd, i) ∈ rl nT nO) (he : ∀ g, cr ad cy σ.2 kd i g = .inl (cA, N, .inl g)) (ht : (tyl cy)[t0]? = some (cA, .int)) (h10 : ¬ kd = 10) (h11 : ¬ kd = 11) (h00 : ¬ kd = 0) (hdg : decode cc pc = .ok (.iastore, 1)) (kk : ∀ (H1 : Heap) (locs1 : List Loc), Hp D cy n0 ad nT nO s (sv σ kd i j.toNatClampNeg x) H1 locs1 → Sm Qf o p l e R s m args below meth c H1 locs1 cells slots (F0 m (pc + 1) ls (rest))) : Sm Qf (if j < 0 ∨ N ≤ j.toNatClampNeg then none else o) p l e R s m args below meth c H locs cells slots (F0 m pc ls (.int x :: .int j :: .ref (ad kd i) :: rest)) := by
  intro r h
  by_cases hj : j < 0 ∨ N ≤ j.toNatClampNeg
  · rw [if_pos hj] at h; cases h
  · rw [if_neg hj] at h
    obtain ⟨q, hq, hq2⟩ := wd_get (ad := ad) (cy := cy) (σ := σ) hr
    rw [show ce ad cy σ kd i = _ from he _] at hq
    refine va_iast C0.1.1 C0.1.2.1 C0.2.2.1 hh.1 hh.2.1 hh.2.2.1 q t0 hq ht hj hdg (fun H1 locs1 hP hD hS => ?_)
    have hs := wd_set (σ' := sv σ kd i j.toNatClampNeg x) hh.2.1 hq2 (fun k' i' _ hne => ce_sv k' i' hne)
    rw [ce_at, he] at hs
    rw [hs] at hP
    exact kk H1 locs1 ⟨hP, wd_D hh.2.1, hS, hh.2.2.2.sv _ _ _ _ h10 h11 h00⟩ r h
theorem s_cald (C0 : Cx p l s m args meth c cc nL own D cy n0) (hh : Hp D cy n0 ad nT nO s σ H locs) {kd i N t0 : Nat} {cA : ClassId} {j : Int32} {g : Nat → Int32} (hg : σ.1 kd i = g) (hr : (kd, i) ∈ rl nT nO) (he : ∀ g, cr ad cy σ.2 kd i g = .inl (cA, N, .inl g)) (ht : (tyl cy)[t0]? = some (cA, .char)) (hdg : decode cc pc = .ok (.caload, 1)) (k : Sm Qf o p l e R s m args below meth c H locs cells slots (F0 m (pc + 1) ls (.int (g j.toNatClampNeg) :: rest))) : Sm Qf (if j < 0 ∨ N ≤ j.toNatClampNeg then none else o) p l e R s m args below meth c H locs cells slots (F0 m pc ls (.int j :: .ref (ad kd i) :: rest)) := by
  intro r h
  subst hg
  by_cases hj : j < 0 ∨ N ≤ j.toNatClampNeg
  · rw [if_pos hj] at h; cases h
  · rw [if_neg hj] at h
    obtain ⟨q, hq, -⟩ := wd_get (ad := ad) (cy := cy) (σ := σ) hr
    rw [show ce ad cy σ kd i = _ from he _] at hq
    exact va_cald C0.1.1 C0.1.2.1 C0.2.2.1 hh.1 q t0 hq ht hj hdg (k r h)
theorem s_cast (C0 : Cx p l s m args meth c cc nL own D cy n0) (hh : Hp D cy n0 ad nT nO s σ H locs) {kd i N t0 : Nat} {cA : ClassId} {j x : Int32} (hr : (kd, i) ∈ rl nT nO) (he : ∀ g, cr ad cy σ.2 kd i g = .inl (cA, N, .inl g)) (ht : (tyl cy)[t0]? = some (cA, .char)) (h10 : ¬ kd = 10) (h11 : ¬ kd = 11) (h00 : ¬ kd = 0) (hdg : decode cc pc = .ok (.castore, 1)) (kk : ∀ (H1 : Heap) (locs1 : List Loc), Hp D cy n0 ad nT nO s (sv σ kd i j.toNatClampNeg (vp_nar .char x)) H1 locs1 → Sm Qf o p l e R s m args below meth c H1 locs1 cells slots (F0 m (pc + 1) ls (rest))) : Sm Qf (if j < 0 ∨ N ≤ j.toNatClampNeg then none else o) p l e R s m args below meth c H locs cells slots (F0 m pc ls (.int x :: .int j :: .ref (ad kd i) :: rest)) := by
  intro r h
  by_cases hj : j < 0 ∨ N ≤ j.toNatClampNeg
  · rw [if_pos hj] at h; cases h
  · rw [if_neg hj] at h
    obtain ⟨q, hq, hq2⟩ := wd_get (ad := ad) (cy := cy) (σ := σ) hr
    rw [show ce ad cy σ kd i = _ from he _] at hq
    refine va_cast C0.1.1 C0.1.2.1 C0.2.2.1 hh.1 hh.2.1 hh.2.2.1 q t0 hq ht hj hdg (fun H1 locs1 hP hD hS => ?_)
    have hs := wd_set (σ' := sv σ kd i j.toNatClampNeg (vp_nar .char x)) hh.2.1 hq2 (fun k' i' _ hne => ce_sv k' i' hne)
    rw [ce_at, he] at hs
    rw [hs] at hP
    exact kk H1 locs1 ⟨hP, wd_D hh.2.1, hS, hh.2.2.2.sv _ _ _ _ h10 h11 h00⟩ r h
theorem s_zald (C0 : Cx p l s m args meth c cc nL own D cy n0) (hh : Hp D cy n0 ad nT nO s σ H locs) {kd i N t0 : Nat} {cA : ClassId} {j : Int32} {g : Nat → Int32} (hg : σ.1 kd i = g) (hr : (kd, i) ∈ rl nT nO) (he : ∀ g, cr ad cy σ.2 kd i g = .inl (cA, N, .inl g)) (ht : (tyl cy)[t0]? = some (cA, .boolean)) (hdg : decode cc pc = .ok (.baload, 1)) (k : Sm Qf o p l e R s m args below meth c H locs cells slots (F0 m (pc + 1) ls (.int (g j.toNatClampNeg) :: rest))) : Sm Qf (if j < 0 ∨ N ≤ j.toNatClampNeg then none else o) p l e R s m args below meth c H locs cells slots (F0 m pc ls (.int j :: .ref (ad kd i) :: rest)) := by
  intro r h
  subst hg
  by_cases hj : j < 0 ∨ N ≤ j.toNatClampNeg
  · rw [if_pos hj] at h; cases h
  · rw [if_neg hj] at h
    obtain ⟨q, hq, -⟩ := wd_get (ad := ad) (cy := cy) (σ := σ) hr
    rw [show ce ad cy σ kd i = _ from he _] at hq
    exact va_zald C0.1.1 C0.1.2.1 C0.2.2.1 hh.1 q t0 hq ht hj hdg (k r h)
theorem s_zast (C0 : Cx p l s m args meth c cc nL own D cy n0) (hh : Hp D cy n0 ad nT nO s σ H locs) {kd i N t0 : Nat} {cA : ClassId} {j x : Int32} (hr : (kd, i) ∈ rl nT nO) (he : ∀ g, cr ad cy σ.2 kd i g = .inl (cA, N, .inl g)) (ht : (tyl cy)[t0]? = some (cA, .boolean)) (h10 : ¬ kd = 10) (h11 : ¬ kd = 11) (h00 : ¬ kd = 0) (hdg : decode cc pc = .ok (.bastore, 1)) (kk : ∀ (H1 : Heap) (locs1 : List Loc), Hp D cy n0 ad nT nO s (sv σ kd i j.toNatClampNeg (vp_nar .boolean x)) H1 locs1 → Sm Qf o p l e R s m args below meth c H1 locs1 cells slots (F0 m (pc + 1) ls (rest))) : Sm Qf (if j < 0 ∨ N ≤ j.toNatClampNeg then none else o) p l e R s m args below meth c H locs cells slots (F0 m pc ls (.int x :: .int j :: .ref (ad kd i) :: rest)) := by
  intro r h
  by_cases hj : j < 0 ∨ N ≤ j.toNatClampNeg
  · rw [if_pos hj] at h; cases h
  · rw [if_neg hj] at h
    obtain ⟨q, hq, hq2⟩ := wd_get (ad := ad) (cy := cy) (σ := σ) hr
    rw [show ce ad cy σ kd i = _ from he _] at hq
    refine va_zast C0.1.1 C0.1.2.1 C0.2.2.1 hh.1 hh.2.1 hh.2.2.1 q t0 hq ht hj hdg (fun H1 locs1 hP hD hS => ?_)
    have hs := wd_set (σ' := sv σ kd i j.toNatClampNeg (vp_nar .boolean x)) hh.2.1 hq2 (fun k' i' _ hne => ce_sv k' i' hne)
    rw [ce_at, he] at hs
    rw [hs] at hP
    exact kk H1 locs1 ⟨hP, wd_D hh.2.1, hS, hh.2.2.2.sv _ _ _ _ h10 h11 h00⟩ r h
theorem s_last (C0 : Cx p l s m args meth c cc nL own D cy n0) (hh : Hp D cy n0 ad nT nO s σ H locs) {x : Int64} (hdg : decode cc pc = .ok (.lastore, 1)) (kk : ∀ (H1 : Heap) (locs1 : List Loc), Hp D cy n0 ad nT nO s (svo σ x) H1 locs1 → Sm Qf o p l e R s m args below meth c H1 locs1 cells slots (F0 m (pc + 1) ls (rest))) : Sm Qf o p l e R s m args below meth c H locs cells slots (F0 m pc ls (.long x :: .int 0 :: .ref (ad 12 0) :: rest)) := by
  intro r h
  have hr : (12, 0) ∈ rl nT nO := rl_b (by decide)
  obtain ⟨q, hq, hq2⟩ := wd_get (ad := ad) (cy := cy) (σ := σ) hr
  refine va_last C0.1.1 C0.1.2.1 C0.2.2.1 hh.1 hh.2.1 hh.2.2.1 q 5 hq rfl (by unfold vp_in; decide) hdg (fun H1 locs1 hP hD hS => ?_)
  have hs := wd_set (σ' := svo σ x) hh.2.1 hq2 (fun k' i' hm hne => ce_svo k' i' (fun hk => hne ⟨hk, rl_z hm (Or.inr (Or.inl hk))⟩))
  have e1 : vp_updL (fun j => if j = 0 then σ.2.2.1 else 0) (Int32.toNatClampNeg 0) x = (fun j => if j = 0 then x else 0) := by
    funext j
    have e0 : Int32.toNatClampNeg 0 = 0 := by decide
    unfold vp_updL
    rw [e0]
    by_cases hj0 : j = 0 <;> simp [hj0]
  have e2 : ce ad cy (svo σ x) 12 0 = .inl (cy 5, 1, .inr (.inl (vp_updL (fun j => if j = 0 then σ.2.2.1 else 0) (Int32.toNatClampNeg 0) x))) := by rw [e1]; rfl
  rw [e2] at hs
  rw [hs] at hP
  exact kk H1 locs1 ⟨hP, wd_D hh.2.1, hS, hh.2.2.2⟩ r h
theorem s_dast (C0 : Cx p l s m args meth c cc nL own D cy n0) (hh : Hp D cy n0 ad nT nO s σ H locs) {x : UInt64} (hdg : decode cc pc = .ok (.dastore, 1)) (kk : ∀ (H1 : Heap) (locs1 : List Loc), Hp D cy n0 ad nT nO s (svd σ x) H1 locs1 → Sm Qf o p l e R s m args below meth c H1 locs1 cells slots (F0 m (pc + 1) ls (rest))) : Sm Qf o p l e R s m args below meth c H locs cells slots (F0 m pc ls (.double x :: .int 0 :: .ref (ad 13 0) :: rest)) := by
  intro r h
  have hr : (13, 0) ∈ rl nT nO := rl_b (by decide)
  obtain ⟨q, hq, hq2⟩ := wd_get (ad := ad) (cy := cy) (σ := σ) hr
  refine va_dast C0.1.1 C0.1.2.1 C0.2.2.1 hh.1 hh.2.1 hh.2.2.1 q 6 hq rfl (by unfold vp_in; decide) hdg (fun H1 locs1 hP hD hS => ?_)
  have hs := wd_set (σ' := svd σ x) hh.2.1 hq2 (fun k' i' hm hne => ce_svd k' i' (fun hk => hne ⟨hk, rl_z hm (Or.inr (Or.inr hk))⟩))
  have e1 : vf_upd (fun j => if j = 0 then σ.2.2.2 else 0) (Int32.toNatClampNeg 0) x = (fun j => if j = 0 then x else 0) := by
    funext j
    have e0 : Int32.toNatClampNeg 0 = 0 := by decide
    unfold vf_upd
    rw [e0]
    by_cases hj0 : j = 0 <;> simp [hj0]
  have e2 : ce ad cy (svd σ x) 13 0 = .inl (cy 6, 1, .inr (.inr (.inr (.inl (vf_upd (fun j => if j = 0 then σ.2.2.2 else 0) (Int32.toNatClampNeg 0) x))))) := by rw [e1]; rfl
  rw [e2] at hs
  rw [hs] at hP
  exact kk H1 locs1 ⟨hP, wd_D hh.2.1, hS, hh.2.2.2⟩ r h
theorem s_lald (C0 : Cx p l s m args meth c cc nL own D cy n0) (hh : Hp D cy n0 ad nT nO s σ H locs) (hdg : decode cc pc = .ok (.laload, 1)) (k : Sm Qf o p l e R s m args below meth c H locs cells slots (F0 m (pc + 1) ls (.long (σ.2.2.1) :: rest))) : Sm Qf o p l e R s m args below meth c H locs cells slots (F0 m pc ls (.int 0 :: .ref (ad 12 0) :: rest)) := by
  intro r h
  have hr : (12, 0) ∈ rl nT nO := rl_b (by decide)
  obtain ⟨q, hq, -⟩ := wd_get (ad := ad) (cy := cy) (σ := σ) hr
  exact va_lald C0.1.1 C0.1.2.1 C0.2.2.1 hh.1 q 5 hq rfl (by unfold vp_in; decide) hdg (k r h)
theorem s_dald (C0 : Cx p l s m args meth c cc nL own D cy n0) (hh : Hp D cy n0 ad nT nO s σ H locs) (hdg : decode cc pc = .ok (.daload, 1)) (k : Sm Qf o p l e R s m args below meth c H locs cells slots (F0 m (pc + 1) ls (.double (σ.2.2.2) :: rest))) : Sm Qf o p l e R s m args below meth c H locs cells slots (F0 m pc ls (.int 0 :: .ref (ad 13 0) :: rest)) := by
  intro r h
  have hr : (13, 0) ∈ rl nT nO := rl_b (by decide)
  obtain ⟨q, hq, -⟩ := wd_get (ad := ad) (cy := cy) (σ := σ) hr
  exact va_dald C0.1.1 C0.1.2.1 C0.2.2.1 hh.1 q 6 hq rfl (by unfold vp_in; decide) hdg (k r h)
theorem s_aaldT (C0 : Cx p l s m args meth c cc nL own D cy n0) (hh : Hp D cy n0 ad nT nO s σ H locs) {j : Int32} (hdg : decode cc pc = .ok (.aaload, 1)) (k : j.toNatClampNeg < nT → Sm Qf o p l e R s m args below meth c H locs cells slots (F0 m (pc + 1) ls (.ref (ad 1 j.toNatClampNeg) :: rest))) : Sm Qf (if j < 0 ∨ 8 ≤ j.toNatClampNeg then none else if σ.1 10 0 j.toNatClampNeg = 0 then none else o) p l e R s m args below meth c H locs cells slots (F0 m pc ls (.int j :: .ref (ad 10 0) :: rest)) := by
  intro r h
  by_cases hj : j < 0 ∨ 8 ≤ j.toNatClampNeg
  · rw [if_pos hj] at h; cases h
  · rw [if_neg hj] at h
    have hr : (10, 0) ∈ rl nT nO := rl_b (by decide)
    obtain ⟨q, hq, -⟩ := wd_get (ad := ad) (cy := cy) (σ := σ) hr
    have hlt : j.toNatClampNeg < 8 := Nat.lt_of_not_le (fun h9 => hj (Or.inr h9))
    refine va_aldq C0.1.1 C0.1.2.1 C0.2.2.1 hh.1 q 4 hq rfl hj hdg ?_
    show W p l e R s m args below meth c H locs cells slots (Qf r) (F0 m (pc + 1) ls (va_rf (if σ.1 10 0 j.toNatClampNeg = 0 then none else some (ad 1 j.toNatClampNeg)) :: rest))
    by_cases hz : σ.1 10 0 j.toNatClampNeg = 0
    · rw [if_pos hz] at h; cases h
    · rw [if_neg hz] at h ⊢
      exact k (hh.2.2.2.1.1 _ hz) r h
theorem s_aaldNNT (C0 : Cx p l s m args meth c cc nL own D cy n0) (hh : Hp D cy n0 ad nT nO s σ H locs) {j : Int32} {off : Int} {tgt : Nat} (hdg : decode cc pc = .ok (.aaload, 1)) (hdg2 : decode cc (pc + 1) = .ok (.ifnonnull off, 3)) (ht : ((pc + 1 : Nat) : Int) + off = (tgt : Int)) (k0 : σ.1 10 0 j.toNatClampNeg = 0 → Sm Qf o1 p l e R s m args below meth c H locs cells slots (F0 m (pc + 1 + 3) ls (rest))) (k1 : ¬ σ.1 10 0 j.toNatClampNeg = 0 → j.toNatClampNeg < nT → Sm Qf o2 p l e R s m args below meth c H locs cells slots (F0 m tgt ls (rest))) : Sm Qf (if j < 0 ∨ 8 ≤ j.toNatClampNeg then none else if σ.1 10 0 j.toNatClampNeg = 0 then o1 else o2) p l e R s m args below meth c H locs cells slots (F0 m pc ls (.int j :: .ref (ad 10 0) :: rest)) := by
  intro r h
  by_cases hj : j < 0 ∨ 8 ≤ j.toNatClampNeg
  · rw [if_pos hj] at h; cases h
  · rw [if_neg hj] at h
    have hr : (10, 0) ∈ rl nT nO := rl_b (by decide)
    obtain ⟨q, hq, -⟩ := wd_get (ad := ad) (cy := cy) (σ := σ) hr
    have hlt : j.toNatClampNeg < 8 := Nat.lt_of_not_le (fun h9 => hj (Or.inr h9))
    refine va_aldq C0.1.1 C0.1.2.1 C0.2.2.1 hh.1 q 4 hq rfl hj hdg ?_
    show W p l e R s m args below meth c H locs cells slots (Qf r) (F0 m (pc + 1) ls (va_rf (if σ.1 10 0 j.toNatClampNeg = 0 then none else some (ad 1 j.toNatClampNeg)) :: rest))
    by_cases hz : σ.1 10 0 j.toNatClampNeg = 0
    · rw [if_pos hz] at h ⊢
      exact lv_ifnonnullN C0.1.1 C0.1.2.1 hdg2 (k0 hz r h)
    · rw [if_neg hz] at h ⊢
      exact lv_ifnonnull C0.1.1 C0.1.2.1 hdg2 ht (k1 hz (hh.2.2.2.1.1 _ hz) r h)
theorem s_aaldNUT (C0 : Cx p l s m args meth c cc nL own D cy n0) (hh : Hp D cy n0 ad nT nO s σ H locs) {j : Int32} {off : Int} {tgt : Nat} (hdg : decode cc pc = .ok (.aaload, 1)) (hdg2 : decode cc (pc + 1) = .ok (.ifnull off, 3)) (ht : ((pc + 1 : Nat) : Int) + off = (tgt : Int)) (k0 : σ.1 10 0 j.toNatClampNeg = 0 → Sm Qf o1 p l e R s m args below meth c H locs cells slots (F0 m tgt ls (rest))) (k1 : ¬ σ.1 10 0 j.toNatClampNeg = 0 → j.toNatClampNeg < nT → Sm Qf o2 p l e R s m args below meth c H locs cells slots (F0 m (pc + 1 + 3) ls (rest))) : Sm Qf (if j < 0 ∨ 8 ≤ j.toNatClampNeg then none else if σ.1 10 0 j.toNatClampNeg = 0 then o1 else o2) p l e R s m args below meth c H locs cells slots (F0 m pc ls (.int j :: .ref (ad 10 0) :: rest)) := by
  intro r h
  by_cases hj : j < 0 ∨ 8 ≤ j.toNatClampNeg
  · rw [if_pos hj] at h; cases h
  · rw [if_neg hj] at h
    have hr : (10, 0) ∈ rl nT nO := rl_b (by decide)
    obtain ⟨q, hq, -⟩ := wd_get (ad := ad) (cy := cy) (σ := σ) hr
    have hlt : j.toNatClampNeg < 8 := Nat.lt_of_not_le (fun h9 => hj (Or.inr h9))
    refine va_aldq C0.1.1 C0.1.2.1 C0.2.2.1 hh.1 q 4 hq rfl hj hdg ?_
    show W p l e R s m args below meth c H locs cells slots (Qf r) (F0 m (pc + 1) ls (va_rf (if σ.1 10 0 j.toNatClampNeg = 0 then none else some (ad 1 j.toNatClampNeg)) :: rest))
    by_cases hz : σ.1 10 0 j.toNatClampNeg = 0
    · rw [if_pos hz] at h ⊢
      exact lv_ifnullN C0.1.1 C0.1.2.1 hdg2 ht (k0 hz r h)
    · rw [if_neg hz] at h ⊢
      exact lv_ifnull C0.1.1 C0.1.2.1 hdg2 (k1 hz (hh.2.2.2.1.1 _ hz) r h)
theorem s_aaldO (C0 : Cx p l s m args meth c cc nL own D cy n0) (hh : Hp D cy n0 ad nT nO s σ H locs) {j : Int32} (hdg : decode cc pc = .ok (.aaload, 1)) (k : j.toNatClampNeg < nO → Sm Qf o p l e R s m args below meth c H locs cells slots (F0 m (pc + 1) ls (.ref (ad 6 j.toNatClampNeg) :: rest))) : Sm Qf (if j < 0 ∨ 6 ≤ j.toNatClampNeg then none else if σ.1 11 0 j.toNatClampNeg = 0 then none else o) p l e R s m args below meth c H locs cells slots (F0 m pc ls (.int j :: .ref (ad 11 0) :: rest)) := by
  intro r h
  by_cases hj : j < 0 ∨ 6 ≤ j.toNatClampNeg
  · rw [if_pos hj] at h; cases h
  · rw [if_neg hj] at h
    have hr : (11, 0) ∈ rl nT nO := rl_b (by decide)
    obtain ⟨q, hq, -⟩ := wd_get (ad := ad) (cy := cy) (σ := σ) hr
    have hlt : j.toNatClampNeg < 6 := Nat.lt_of_not_le (fun h9 => hj (Or.inr h9))
    refine va_aldq C0.1.1 C0.1.2.1 C0.2.2.1 hh.1 q 3 hq rfl hj hdg ?_
    show W p l e R s m args below meth c H locs cells slots (Qf r) (F0 m (pc + 1) ls (va_rf (if σ.1 11 0 j.toNatClampNeg = 0 then none else some (ad 6 j.toNatClampNeg)) :: rest))
    by_cases hz : σ.1 11 0 j.toNatClampNeg = 0
    · rw [if_pos hz] at h; cases h
    · rw [if_neg hz] at h ⊢
      exact k (hh.2.2.2.1.2 _ hz) r h
theorem s_aaldNNO (C0 : Cx p l s m args meth c cc nL own D cy n0) (hh : Hp D cy n0 ad nT nO s σ H locs) {j : Int32} {off : Int} {tgt : Nat} (hdg : decode cc pc = .ok (.aaload, 1)) (hdg2 : decode cc (pc + 1) = .ok (.ifnonnull off, 3)) (ht : ((pc + 1 : Nat) : Int) + off = (tgt : Int)) (k0 : σ.1 11 0 j.toNatClampNeg = 0 → Sm Qf o1 p l e R s m args below meth c H locs cells slots (F0 m (pc + 1 + 3) ls (rest))) (k1 : ¬ σ.1 11 0 j.toNatClampNeg = 0 → j.toNatClampNeg < nO → Sm Qf o2 p l e R s m args below meth c H locs cells slots (F0 m tgt ls (rest))) : Sm Qf (if j < 0 ∨ 6 ≤ j.toNatClampNeg then none else if σ.1 11 0 j.toNatClampNeg = 0 then o1 else o2) p l e R s m args below meth c H locs cells slots (F0 m pc ls (.int j :: .ref (ad 11 0) :: rest)) := by
  intro r h
  by_cases hj : j < 0 ∨ 6 ≤ j.toNatClampNeg
  · rw [if_pos hj] at h; cases h
  · rw [if_neg hj] at h
    have hr : (11, 0) ∈ rl nT nO := rl_b (by decide)
    obtain ⟨q, hq, -⟩ := wd_get (ad := ad) (cy := cy) (σ := σ) hr
    have hlt : j.toNatClampNeg < 6 := Nat.lt_of_not_le (fun h9 => hj (Or.inr h9))
    refine va_aldq C0.1.1 C0.1.2.1 C0.2.2.1 hh.1 q 3 hq rfl hj hdg ?_
    show W p l e R s m args below meth c H locs cells slots (Qf r) (F0 m (pc + 1) ls (va_rf (if σ.1 11 0 j.toNatClampNeg = 0 then none else some (ad 6 j.toNatClampNeg)) :: rest))
    by_cases hz : σ.1 11 0 j.toNatClampNeg = 0
    · rw [if_pos hz] at h ⊢
      exact lv_ifnonnullN C0.1.1 C0.1.2.1 hdg2 (k0 hz r h)
    · rw [if_neg hz] at h ⊢
      exact lv_ifnonnull C0.1.1 C0.1.2.1 hdg2 ht (k1 hz (hh.2.2.2.1.2 _ hz) r h)
theorem s_aaldNUO (C0 : Cx p l s m args meth c cc nL own D cy n0) (hh : Hp D cy n0 ad nT nO s σ H locs) {j : Int32} {off : Int} {tgt : Nat} (hdg : decode cc pc = .ok (.aaload, 1)) (hdg2 : decode cc (pc + 1) = .ok (.ifnull off, 3)) (ht : ((pc + 1 : Nat) : Int) + off = (tgt : Int)) (k0 : σ.1 11 0 j.toNatClampNeg = 0 → Sm Qf o1 p l e R s m args below meth c H locs cells slots (F0 m tgt ls (rest))) (k1 : ¬ σ.1 11 0 j.toNatClampNeg = 0 → j.toNatClampNeg < nO → Sm Qf o2 p l e R s m args below meth c H locs cells slots (F0 m (pc + 1 + 3) ls (rest))) : Sm Qf (if j < 0 ∨ 6 ≤ j.toNatClampNeg then none else if σ.1 11 0 j.toNatClampNeg = 0 then o1 else o2) p l e R s m args below meth c H locs cells slots (F0 m pc ls (.int j :: .ref (ad 11 0) :: rest)) := by
  intro r h
  by_cases hj : j < 0 ∨ 6 ≤ j.toNatClampNeg
  · rw [if_pos hj] at h; cases h
  · rw [if_neg hj] at h
    have hr : (11, 0) ∈ rl nT nO := rl_b (by decide)
    obtain ⟨q, hq, -⟩ := wd_get (ad := ad) (cy := cy) (σ := σ) hr
    have hlt : j.toNatClampNeg < 6 := Nat.lt_of_not_le (fun h9 => hj (Or.inr h9))
    refine va_aldq C0.1.1 C0.1.2.1 C0.2.2.1 hh.1 q 3 hq rfl hj hdg ?_
    show W p l e R s m args below meth c H locs cells slots (Qf r) (F0 m (pc + 1) ls (va_rf (if σ.1 11 0 j.toNatClampNeg = 0 then none else some (ad 6 j.toNatClampNeg)) :: rest))
    by_cases hz : σ.1 11 0 j.toNatClampNeg = 0
    · rw [if_pos hz] at h ⊢
      exact lv_ifnullN C0.1.1 C0.1.2.1 hdg2 ht (k0 hz r h)
    · rw [if_neg hz] at h ⊢
      exact lv_ifnull C0.1.1 C0.1.2.1 hdg2 (k1 hz (hh.2.2.2.1.2 _ hz) r h)
theorem s_aastN (C0 : Cx p l s m args meth c cc nL own D cy n0) (hh : Hp D cy n0 ad nT nO s σ H locs) {j : Int32} (hdg : decode cc pc = .ok (.aastore, 1)) (kk : ∀ (H1 : Heap) (locs1 : List Loc), Hp D cy n0 ad nT nO s (sv σ 10 0 j.toNatClampNeg 0) H1 locs1 → Sm Qf o p l e R s m args below meth c H1 locs1 cells slots (F0 m (pc + 1) ls (rest))) : Sm Qf (if j < 0 ∨ 8 ≤ j.toNatClampNeg then none else o) p l e R s m args below meth c H locs cells slots (F0 m pc ls (.null :: .int j :: .ref (ad 10 0) :: rest)) := by
  intro r h
  by_cases hj : j < 0 ∨ 8 ≤ j.toNatClampNeg
  · rw [if_pos hj] at h; cases h
  · rw [if_neg hj] at h
    have hr : (10, 0) ∈ rl nT nO := rl_b (by decide)
    obtain ⟨q, hq, hq2⟩ := wd_get (ad := ad) (cy := cy) (σ := σ) hr
    refine va_astqN C0.1.1 C0.1.2.1 C0.2.2.1 hh.1 hh.2.1 hh.2.2.1 q 4 hq rfl hj hdg (fun H1 locs1 hP hD hS => ?_)
    have hs := wd_set (σ' := sv σ 10 0 j.toNatClampNeg 0) hh.2.1 hq2 (fun k' i' _ hne => ce_sv k' i' hne)
    rw [ce_at] at hs
    have e2 : cr ad cy σ.2 10 0 (upd (σ.1 10 0) j.toNatClampNeg 0) = .inl (cy 4, 8, .inr (.inr (.inr (.inr (va_up (fun i => if σ.1 10 0 i = 0 then none else some (ad 1 i)) j.toNatClampNeg none))))) := by
      have hf : (fun i => if upd (σ.1 10 0) j.toNatClampNeg 0 i = 0 then (none : Option Nat) else some (ad 1 i)) = va_up (fun i => if σ.1 10 0 i = 0 then none else some (ad 1 i)) j.toNatClampNeg none := by
        funext i
        unfold upd va_up
        by_cases hi : i = j.toNatClampNeg <;> simp [hi]
      show (Sum.inl (cy 4, 8, Sum.inr (Sum.inr (Sum.inr (Sum.inr (fun i => if upd (σ.1 10 0) j.toNatClampNeg 0 i = 0 then (none : Option Nat) else some (ad 1 i)))))) : va_E) = _
      rw [hf]
    rw [e2] at hs
    have hP2 : va_P D kcl ((wd ad cy σ nT nO).set q (ad 10 0, .inl (cy 4, 8, .inr (.inr (.inr (.inr (va_up (fun i => if σ.1 10 0 i = 0 then none else some (ad 1 i)) j.toNatClampNeg none))))))) H1 := hP
    rw [hs] at hP2
    refine kk H1 locs1 ⟨hP2, wd_D hh.2.1, hS, ⟨fun i hi => hh.2.2.2.1.1 i (fun hz => hi ?_), fun i hi => hh.2.2.2.1.2 i (fun hz => hi ?_)⟩, by rw [sv_ne σ _ _ (by omega)]; exact hh.2.2.2.2.1, by rw [sv_ne σ _ _ (by omega)]; exact hh.2.2.2.2.2⟩ r h
    · rw [sv_at]; unfold upd; split
      · rfl
      · exact hz
    · rw [sv_ne σ _ _ (by omega)]; exact hz
theorem s_getq (C0 : Cx p l s m args meth c cc nL own D cy n0) (hh : Hq D cy n0 ad nT nO s σ H locs) {kd i ci pos index N : Nat} {Cn : String} {T : u_T} {fs : List Value} {v : Value} (hr : (kd, i) ∈ rl nT nO) (he : ce ad cy σ kd i = .inr (ci, fs)) (hc : kcl[ci]? = some (Cn, T, N)) (hin : ∀ w ∈ u_ws Cn T N, w ∈ allw) (hk : pos < N) (hw : Cond.fieldLink own index (T pos).1 (T pos).2.1 (T pos).2.2.1 ∈ allw) (hv : fs[pos]? = some v) (hdg : decode cc pc = .ok (.getfield index, 3)) (k : Sm Qf o p l e R s m args below meth c H locs cells slots (F0 m (pc + 3) ls (v :: rest))) : Sm Qf o p l e R s m args below meth c H locs cells slots (F0 m pc ls (.ref (ad kd i) :: rest)) := by
  intro r h
  obtain ⟨q, hq, -⟩ := wd_get (ad := ad) (cy := cy) (σ := σ) hr
  rw [he] at hq
  exact va_get C0.1.1 C0.1.2.1 C0.1.2.2.2.2 hin C0.1.2.2.2.1 C0.2.2.1 hh.1 q hq hc pos hk (C0.1.2.2.2.2 _ hw) (fun _ h9 => h9) hv hdg (k r h)
theorem s_putq (C0 : Cx p l s m args meth c cc nL own D cy n0) (hh : Hq D cy n0 ad nT nO s σ H locs) {kd i ci pos index N : Nat} {Cn : String} {T : u_T} {fs : List Value} {v : Int32} {ty : FieldType} (hr : (kd, i) ∈ rl nT nO) (he : ce ad cy σ kd i = .inr (ci, fs)) (he2 : cr ad cy σ.2 kd i (upd (σ.1 kd i) pos v) = .inr (ci, fs.set pos (.int v))) (hc : kcl[ci]? = some (Cn, T, N)) (hin : ∀ w ∈ u_ws Cn T N, w ∈ allw) (ty0 : Nat → FieldType) (hty : ∀ k, k < N → parseFieldDescriptor (T k).2.2.1 = some (ty0 k)) (hnm : ∀ a, a < N → ∀ b, b < N → a ≠ b → (T a).2.1 ≠ (T b).2.1) (hk : pos < N) (hw : Cond.fieldLink own index (T pos).1 (T pos).2.1 (T pos).2.2.1 ∈ allw) (hfin : (T pos).2.2.2 = false) (hd : parseFieldDescriptor (T pos).2.2.1 = some ty) (hn : narrow ty (.int v) = .int v) (hfit : fits ty (.int v) = true) (hl : pos < fs.length) (h10 : ¬ kd = 10) (h11 : ¬ kd = 11) (hdg : decode cc pc = .ok (.putfield index, 3)) (kk : ∀ (H1 : Heap) (locs1 : List Loc), Hq D cy n0 ad nT nO s (sv σ kd i pos v) H1 locs1 → Sm Qf o p l e R s m args below meth c H1 locs1 cells slots (F0 m (pc + 3) ls (rest))) : Sm Qf o p l e R s m args below meth c H locs cells slots (F0 m pc ls (.int v :: .ref (ad kd i) :: rest)) := by
  intro r h
  obtain ⟨q, hq, hq2⟩ := wd_get (ad := ad) (cy := cy) (σ := σ) hr
  rw [he] at hq
  refine va_put C0.1.1 C0.1.2.1 C0.1.2.2.2.2 hin ty0 hty hnm C0.1.2.2.2.1 C0.2.2.1 hh.1 hh.2.1 hh.2.2.1 q hq hc pos hk (C0.1.2.2.2.2 _ hw) (fun _ h9 => h9) hfin hd hn hfit hl hdg (fun H1 locs1 hP hD hS => ?_)
  have hs := wd_set (σ' := sv σ kd i pos v) hh.2.1 hq2 (fun k' i' _ hne => ce_sv k' i' hne)
  rw [ce_at, he2] at hs
  rw [hs] at hP
  exact kk H1 locs1 ⟨hP, wd_D hh.2.1, hS, hh.2.2.2.sv _ _ _ _ h10 h11⟩ r h
theorem s_fconst (C0 : Cx p l s m args meth c cc nL own D cy n0) (hdg : decode cc pc = .ok (.fconst 0, 1)) (k : Sm Qf o p l e R s m args below meth c H locs cells slots (F0 m (pc + 1) ls (.float 0 :: rest))) : Sm Qf o p l e R s m args below meth c H locs cells slots (F0 m pc ls (rest)) := by
  intro r h T hT X
  obtain ⟨t, a, b⟩ := k r h T hT X
  refine ⟨t, ?_, b⟩
  jvm_step X.here [X.here.top, C0.1.1, C0.1.2.1, hdg, Op.fconst.wp_sem]
  exact a
theorem s_dconst (C0 : Cx p l s m args meth c cc nL own D cy n0) (hdg : decode cc pc = .ok (.dconst 0, 1)) (k : Sm Qf o p l e R s m args below meth c H locs cells slots (F0 m (pc + 1) ls (.double 0 :: rest))) : Sm Qf o p l e R s m args below meth c H locs cells slots (F0 m pc ls (rest)) := by
  intro r h T hT X
  obtain ⟨t, a, b⟩ := k r h T hT X
  refine ⟨t, ?_, b⟩
  jvm_step X.here [X.here.top, C0.1.1, C0.1.2.1, hdg, Op.dconst.wp_sem]
  exact a
end
section
variable {p : Program} {l : Launch} {e : Env} {R : Room} {s : State} {m : MethodId} {args : Array Value} {below : List Frame} {meth : Method} {c : Code} {T : State} {locs : List Loc} {cells slots : Nat}
/-- the words of a constructor that takes a text and hands it on by the index ix of its own -/
def nx_ws (own : String) (ic : Nat) (X : String) (ix : Nat) (rx : ByteArray) (Y : String) (r : List String) : List Cond :=
  Bundle.throwableAtoms ++ Bundle.throwableSAtoms ++ (Bundle.passSAtoms X Y ix rx ++ Bundle.chainSAtoms Y r) ++
  [.methodLink own ic (Bundle.initS X), .instantiable X 6, .castable X X, .selects X Bundle.tFill0 Bundle.tFill0, .selects X Bundle.tFill Bundle.tFill,
   .lays X Bundle.tN "cause" "Ljava/lang/Throwable;", .lays X Bundle.tN "stackTrace" Bundle.steD, .lays X Bundle.tN "suppressedExceptions" Bundle.listD, .lays X Bundle.tN "detailMessage" "Ljava/lang/String;",
   .isRef (.static Bundle.tN "UNASSIGNED_STACK" Bundle.steD), .isRef (.static Bundle.tN "SUPPRESSED_SENTINEL" Bundle.listD),
   .fieldLink Bundle.tN 198 Bundle.tN "backtrace" "Ljava/lang/Object;", .lays Bundle.tN Bundle.tN "backtrace" "Ljava/lang/Object;", .lays X Bundle.tN "backtrace" "Ljava/lang/Object;"]
set_option maxHeartbeats 2000000 in
/-- its call and the throw behind it; it follows the library's Stand.ctorThrowS, its first link by another index -/
theorem nx_ctor (X : Stand p l e R s m args below meth c T locs cells slots) (hexec : p.tables.exec = Jvm.exec) (htr : e.platform.stackTraces = false) {own cls Y9 : String} {r : List String} {ic ix : Nat} {rx : ByteArray}
    (x0 : decode rx 0 = .ok (.aload_n 0, 1)) (x1 : decode rx 1 = .ok (.aload_n 1, 1)) (x2 : decode rx 2 = .ok (.invokespecial ix, 3)) (x5 : decode rx 5 = .ok (.return_, 1))
    (hown : s.vm.findClass own = some m.cls) (hcls : Bundle.fit cls = true) (hY9 : Bundle.fit Y9 = true) (hr : ∀ n ∈ r, Bundle.fit n = true)
    (h : ∀ a ∈ nx_ws own ic cls ix rx Y9 r, a.before args s = true)
    (hlocs : ∀ x ∈ locs, ∀ cell, s.heap[x.base]? = some cell → cell.vm.isStatics = false)
    {a : Addr} {cX : ClassId} {kX : Class} (hfoundX : s.vm.findClass cls = some cX) (hkX : s.vm.classes[cX]? = some kX) (hcell : T.heap[a]? = some (freshCell cX kX)) (hnew : s.heap.size ≤ a)
    {msg : Value} (hmsg : msg.isRef = true)
    {g : JFrame} (hg : g.method = m) (hsize : g.locals.size = c.maxLocals) (hlocked : g.locked = none) (hentered : g.entered = []) {rest : List Value} (hstack : g.stack = msg :: .ref a :: .ref a :: rest)
    (hd6 : decode c.code g.pc = .ok (.invokespecial ic, 3)) (hd9 : decode c.code (g.pc + 3) = .ok (.athrow, 1)) (hout : ∀ x ∈ c.exceptionTable.toList, covers x (g.pc + 3) = false)
    (hRframes : r.length + 4 < R.frames) (hRlocals : 2 * g.monitorRoom + ((Value.ref a :: rest).map fun v => v.category).sum + (13 * (r.length + 2) + 42) ≤ R.locals) (hlocks : meth.locks = false) :
    ∃ U : State, Steps p.tables e below (T.setTop g) U ∧ U.status = .running ∧ Ended U below (.threw a) ∧ s.WarmedH U.vm ∧ s.sameButNew ({ U with vm := s.vm } : State) locs cells slots ∧
      ∃ ce, U.heap[a]? = some ce ∧ s.vm.findClass cls = some ce.cls ∧ ce.vm = .none := by
  have howns : e.platform.frameOwnsMonitors = true := by rw [X.admits.platform]
  have hfin : e.platform.finalization = false := by rw [X.admits.platform]
  have hpl : e.platform.magicAccessors = ({} : Platform).magicAccessors := by rw [X.admits.platform]
  have a' : ∀ x, x ∈ nx_ws own ic cls ix rx Y9 r → x.holds args s none s [] = true := fun x hx => h x hx
  obtain ⟨t, Z0, L, -, Y⟩ := ThrowableC.of_atoms (args := args) howns hfin hpl (fun x hx => h x (by simp [nx_ws, hx]))
  obtain ⟨Z, M, LZ, LM, hnZ⟩ := Init0T.ofS_atoms (args := args) hpl L Y (fun x hx => h x (by simp [nx_ws, hx]))
  obtain ⟨P1, L1, hP1m, hs1⟩ := PassC.ofS_atoms (args := args) (s := s) hpl (X := cls) (Y := Y9) (Bundle.fit_spec hcls).1 (Bundle.fit_spec hY9).2 x0 x1 x2 x5 (fun x hx => h x (by simp [nx_ws, hx]))
  obtain ⟨P2, Qs, hlen, L2, hQs, hP2m, hlink1, hlink⟩ := Bundle.chainS (args := args) hpl hnZ r Y9 hY9 hr (fun x hx => h x (by simp [nx_ws, hx]))
  have hsup1 : P1.sup = P2.m := Option.some.inj (hs1.symm.trans hP2m)
  have hfound : s.vm.findClass cls = some P1.m.cls := findClass_of_methodNamed hP1m
  cases Option.some.inj (hfoundX.symm.trans hfound)
  obtain ⟨c1, kX', hc1, hk, hord, -, -, hn6⟩ := Cond.instantiable_spec (a' (.instantiable cls 6) (by simp [nx_ws]))
  cases Option.some.inj (hc1.symm.trans hfound)
  cases Option.some.inj (hkX.symm.trans hk)
  have hsel0 : selectMethod e.platform s.vm P1.m.cls t.fill0 = .method t.fill0 := by
    obtain ⟨c2, r2, m2, q1, q2, q3, q4, -⟩ := Cond.selects_spec (a' (.selects cls Bundle.tFill0 Bundle.tFill0) (by simp [nx_ws]))
    cases Option.some.inj (q1.symm.trans hfound)
    cases Option.some.inj (q2.symm.trans (State.methodFound?_of_named Y.fill0 (by decide)))
    cases Option.some.inj (q3.symm.trans Y.fill0)
    rw [Launch.admits_selectMethod X.admits]; exact q4
  have hselF : selectMethod e.platform s.vm P1.m.cls t.fill = .method t.fill := by
    obtain ⟨c2, r2, m2, q1, q2, q3, q4, -⟩ := Cond.selects_spec (a' (.selects cls Bundle.tFill Bundle.tFill) (by simp [nx_ws]))
    cases Option.some.inj (q1.symm.trans hfound)
    cases Option.some.inj (q2.symm.trans (State.methodFound?_of_named Y.fill (by decide)))
    cases Option.some.inj (q3.symm.trans Y.fill)
    rw [Launch.admits_selectMethod X.admits]; exact q4
  obtain ⟨cellS0, hcS0, hiss⟩ := Y.statics
  obtain ⟨u0, hu0⟩ := Cond.staticRefV Y.unassigned L.unassignedStatic L.statics hcS0 hiss (a' (.isRef (.static Bundle.tN "UNASSIGNED_STACK" Bundle.steD)) (by simp [nx_ws]))
  obtain ⟨sen, hsen⟩ := Cond.staticRefV Y.sentinel L.sentinelStatic L.statics hcS0 hiss (a' (.isRef (.static Bundle.tN "SUPPRESSED_SENTINEL" Bundle.listD)) (by simp [nx_ws]))
  obtain ⟨ci198, i198, fB, hk198, hg198, ha198, hsB, -, hnB, htB, hffB⟩ := Cond.ownField (t := .object "java/lang/Object") Y.found L.cls (by decide +kernel) (a' (.fieldLink Bundle.tN 198 Bundle.tN "backtrace" "Ljava/lang/Object;") (by simp [nx_ws])) (a' (.lays Bundle.tN Bundle.tN "backtrace" "Ljava/lang/Object;") (by simp [nx_ws])) e.platform hpl
  obtain ⟨cellS, hcS', heS, -, hkeep⟩ := X.same.2.2.2.2.2 t.aS cellS0 hcS0
  have hcellS : T.heap[t.aS]? = some cellS := hcS'
  have hout' : ∀ i, (⟨t.aS, i⟩ : Loc) ∉ locs := fun i hmem => by
    have := hlocs _ hmem cellS0 hcS0
    rw [hiss] at this; cases this
  have hknownS : cellS.vm ≠ .unknown := by
    rw [heS]; intro hu
    rw [show cellS0.vm = .unknown from hu] at hiss
    cases hiss
  have hneS : t.aS ≠ a := Nat.ne_of_lt (Nat.lt_of_lt_of_le (Array.getElem?_eq_some_iff.mp hcS0).1 hnew)
  obtain ⟨iM, hffM⟩ := Y.msg
  obtain ⟨tyC, dC, hdC, hdnC⟩ := Cond.laysAt hfound hk Y.cause (a' (.lays cls Bundle.tN "cause" "Ljava/lang/Throwable;") (by simp [nx_ws]))
  obtain ⟨tyS, dS, hdS, hdnS⟩ := Cond.laysAt hfound hk Y.stack (a' (.lays cls Bundle.tN "stackTrace" Bundle.steD) (by simp [nx_ws]))
  obtain ⟨tyP, dP, hdP, hdnP⟩ := Cond.laysAt hfound hk Y.supp (a' (.lays cls Bundle.tN "suppressedExceptions" Bundle.listD) (by simp [nx_ws]))
  obtain ⟨tyM, dM, hdM, hdnM⟩ := Cond.laysAt hfound hk hffM (a' (.lays cls Bundle.tN "detailMessage" "Ljava/lang/String;") (by simp [nx_ws]))
  obtain ⟨tyB, dB, hdB, hdnB⟩ := Cond.laysAt hfound hk hffB (a' (.lays cls Bundle.tN "backtrace" "Ljava/lang/Object;") (by simp [nx_ws]))
  have bC := Cond.laysApart hdB hdC hdnB hdnC (by rw [hnB, Y.causeName]; decide)
  have bS := Cond.laysApart hdB hdS hdnB hdnS (by rw [hnB, Y.stackName]; decide)
  have bP := Cond.laysApart hdB hdP hdnB hdnP (by rw [hnB, Y.suppName]; decide)
  have hskip : SkipFacts t e.platform s (fun u => u) u0 ((preparedCellV t.toThrowableT (freshCell P1.m.cls kX) a u0 sen).withEntry T.cur) :=
    ⟨{ ci198 := ci198, i198 := i198, fBack := fB }, ⟨hk198, hg198, ha198, hsB⟩, by
      have := fresh_default (c := P1.m.cls) tyB
      rw [htB] at this
      simpa [preparedCellV, Cell.setSlot, Cell.withEntry, Array.getElem?_setIfInBounds, bC, bS, bP, bC.symm, bS.symm, bP.symm, defaultValue] using this, fun _ _ => rfl⟩
  obtain ⟨tm, methC, cdC, kC, vm₁, hnC, -, -, -, -, -, -, -, hW₁, st1⟩ := Steps.initColdS (tb := p.tables) (e := e) (below := below) (s := s) (U := T) X.here hexec X.warmed hpl hown (t := Bundle.initS cls) rfl rfl (Bundle.fit_spec hcls).2
    (a' (.methodLink own ic (Bundle.initS cls)) (by simp [nx_ws])) (h (.instanceMethod (Bundle.initS cls)) (by simp [nx_ws, Bundle.passSAtoms])) (bytes := rx) (maxL := 2) (h (.code (Bundle.initS cls) rx 2 none) (by simp [nx_ws, Bundle.passSAtoms]))
    (f := g) hg (a := a) (msg := msg) (rest := .ref a :: rest) hstack hd6
  cases Option.some.inj (hnC.symm.trans hP1m)
  have X₁ := X.noted hW₁
  obtain ⟨vm₂, X₂, st2⟩ := X₁.ctorMessageOffV hexec (g := { g with stack := .ref a :: rest }) hg hsize t L Z LZ M LM (P1 :: P2 :: Qs)
    (fun P hP => by rcases List.mem_cons.mp hP with rfl | hP; exact L1; rcases List.mem_cons.mp hP with rfl | hP; exact L2; exact hQs P hP) ⟨hsup1, hlink1, hlink⟩ (u0 := u0) (sen := sen) (self := a) hmsg (cell := freshCell P1.m.cls kX) (cellS := cellS)
    hcell (fun _ => by simp) (by simp) rfl rfl hsel0 hselF hcellS hneS hknownS (by rw [hkeep _ (hout' _)]; exact hu0) (by rw [hkeep _ (hout' _)]; exact hsen)
    (Takes.of_laid hk hord tyC (by rw [Y.causeType]; rfl)) (Takes.of_laid hk hord tyS (by rw [Y.stackType]; exact fits_refV_array _ u0)) (Takes.of_laid hk hord tyP (by rw [Y.suppType]; exact fits_refV_object _ sen))
    (Takes.of_laid hk hord tyM (by rw [Y.msgType]; exact fits_refV_object _ ⟨msg, hmsg⟩)) Y.objLocals hskip htr [] hd6
    (by simp only [List.length_cons, hlen]; omega) (by simp only [List.length_cons, hlen]; exact hRlocals)
  obtain ⟨hwalk, hrun, hended, hWU, hsame⟩ := X₂.athrowLeaves hexec (g := { g with stack := .ref a :: rest, pc := g.pc + 3 }) hg hlocked hentered hout (a := a) (rest := rest) rfl hd9
  have hlt : a < ((T.setVm vm₁).setVm vm₂).heap.size := (Array.getElem?_eq_some_iff.mp hcell).1
  have hU := heapAt_setCell_self (s := (T.setVm vm₁).setVm vm₂) (plainBareV t.toThrowableT (freshCell P1.m.cls kX) a u0 sen msg) hlt
  refine ⟨_, st1 _ (fun acts => ?_), hrun, hended, hWU, hsame.weaken (fun y hy hlt' => ?_) (Nat.le_refl _) (Nat.le_refl _), _, hU, hfound, rfl⟩
  · rw [doInvoke_state]
    exact st2 _ hwalk
  · rcases List.mem_append.mp hy with h1 | h1
    · exact h1
    · exfalso
      have hb : y.base = a := by
        simp only [List.mem_cons, List.not_mem_nil, or_false] at h1
        rcases h1 with rfl | rfl | rfl | rfl | rfl <;> rfl
      rw [hb] at hlt'
      exact Nat.not_lt.mpr hnew hlt'
def nx_at (own : String) (ic : Nat) (X : String) (ix : Nat) (rx : ByteArray) (Y : String) (r : List String) : List Cond := (nx_ws own ic X ix rx Y r).filter vx_no
variable {H : Heap} {ls : Array Slot} {rest : List Value} {free : Addr → Prop} {Qc : Array Value → State → Outcome → State → Prop} {XC : String → State → State → Prop}
/-- 'throw new E("text")', the text by a wide index, E's constructor as above; it follows nx_throwSW -/
theorem nx_throwSW {cc : ByteArray} {pc : Nat} (hexec : p.tables.exec = Jvm.exec) (hb : c.code = cc) (hl : l.stackTraces = false) {own cls text : String} {Y9 : String} {r9 : List String} {ix : Nat} {rx : ByteArray} {ik is ic mc ms sa : Nat} {A : Nat → Prop}
    (hown : s.vm.findClass own = some m.cls) (hcls : Bundle.fit cls = true) (hY9 : Bundle.fit Y9 = true) (hr9 : ∀ n ∈ r9, Bundle.fit n = true)
    (x0 : decode rx 0 = .ok (.aload_n 0, 1)) (x1 : decode rx 1 = .ok (.aload_n 1, 1)) (x2 : decode rx 2 = .ok (.invokespecial ix, 3)) (x5 : decode rx 5 = .ok (.return_, 1))
    (hk : (Cond.classLink own ik cls).before args s = true) (hini : (Cond.initialized cls).before args s = true) (hstr : vk_R own is text sa s) (hat : ∀ w ∈ nx_at own ic cls ix rx Y9 r9, w.before args s = true)
    (hgood : ∀ w ∈ Cond.classLink own ik cls :: Cond.initialized cls :: nx_at own ic cls ix rx Y9 r9, vx_ot w = true)
    (hU : vx_Zq Bundle.tN "UNASSIGNED_STACK" Bundle.steD A s s.heap) (hN : vx_Zq Bundle.tN "SUPPRESSED_SENTINEL" Bundle.listD A s s.heap) (hS : va_S A s.heap H locs) (hsize : ls.size = c.maxLocals)
    (d0 : decode cc pc = .ok (.new ik, 3)) (d3 : decode cc (pc + 3) = .ok (.dup, 1)) (d4 : decode cc (pc + 4) = .ok (.ldc_w is, 3)) (d7 : decode cc (pc + 7) = .ok (.invokespecial ic, 3)) (d10 : decode cc (pc + 10) = .ok (.athrow, 1))
    (hout : ∀ x ∈ c.exceptionTable.toList, covers x (pc + 10) = false)
    (hRframes : r9.length + 4 < R.frames) (hRlocals : (rest.map fun v => v.category).sum + (13 * (r9.length + 2) + 43) ≤ R.locals) (hRcells : cells + 1 ≤ R.cells) (hRslots : slots + 6 ≤ R.slots) (hlocks : meth.locks = false)
    (hx : ∀ t : State, s.vm.Alike t.vm → H.size ≤ t.heap.size → (∀ q : Nat, q < H.size → t.heap[q]? = H[q]?) → XC cls s t)
    (hf : ∀ z ∈ locs, free z.base) (hc : cells + 1 ≤ mc) (hs : slots + 6 ≤ ms) :
    W p l e R s m args below meth c H locs cells slots (vx_MQ below Qc XC args s mc ms free) (F0 m pc ls rest) := by
  intro T hT X
  have htr : e.platform.stackTraces = false := (show e.platform.stackTraces = l.stackTraces by rw [X.admits.platform]).trans hl
  have Y := vx_rebase X (R' := { frames := R.frames, locals := R.locals, cells := 1, slots := 6 }) (Nat.le_refl _) (Nat.le_refl _) hRcells hRslots
  obtain ⟨s', hA⟩ : ∃ z, z = (T.setVm s.vm).setFrames (.invoking m args :: below) := ⟨_, rfl⟩
  rw [← hA] at Y
  have hvm : s'.vm = s.vm := by rw [hA]; rfl
  have hhp : s'.heap = H := by rw [hA]; exact hT
  have hW0 : s.WarmedH s'.vm := by rw [hvm]; exact State.WarmedH.refl s
  have hat' : ∀ w ∈ nx_at own ic cls ix rx Y9 r9, w.before args s' = true := fun w hw => vx_ot_at hW0 hvm.symm (hgood w (List.mem_cons_of_mem _ (List.mem_cons_of_mem _ hw))) (hat w hw)
  have hk' : (Cond.classLink own ik cls).before args s' = true := vx_ot_at hW0 hvm.symm (hgood _ List.mem_cons_self) hk
  have hini' : (Cond.initialized cls).before args s' = true := vx_ot_at hW0 hvm.symm (hgood _ (List.mem_cons_of_mem _ List.mem_cons_self)) hini
  have hU' : vx_Zq Bundle.tN "UNASSIGNED_STACK" Bundle.steD A s' s'.heap := by rw [hhp]; exact vx_Zq.moved hW0.alike (hU.kept hS.2.1)
  have hN' : vx_Zq Bundle.tN "SUPPRESSED_SENTINEL" Bundle.listD A s' s'.heap := by rw [hhp]; exact vx_Zq.moved hW0.alike (hN.kept hS.2.1)
  have h : ∀ w ∈ nx_ws own ic cls ix rx Y9 r9, w.before args s' = true := vx_own hat' (vx_isRefq hU'.1) (vx_isRefq hN'.1) hU'.2.word hN'.2.word
  have hown' : s'.vm.findClass own = some m.cls := by rw [hvm]; exact hown
  have hins : (Cond.instantiable cls 6).before args s' = true := h _ (by simp [nx_ws])
  obtain ⟨vm₁, cX, kX, hfX, hkX, -, -, X₁, st1⟩ := Y.newCold hexec (own := own) (C := cls) (index := ik) (n := 6) hown' hk' hins hini'
    (g := F0 m pc ls rest) rfl (by rw [hb]; exact d0) (Nat.le_refl _) (Nat.le_refl _)
  generalize hT1 : (T.setVm vm₁).pushCell { cls := cX, slots := kX.instanceTypes.map defaultValue, vm := .none } = T1 at X₁ st1
  have hcat : (Value.ref T.heap.size).category = 1 := rfl
  have hcellA : T1.heap[T.heap.size]? = some (freshCell cX kX) := by rw [← hT1]; exact State.heap_pushCell_size _ _
  have d3' : decode c.code (pc + 3) = .ok (.dup, 1) := by rw [hb]; exact d3
  have d4' : decode c.code (pc + 4) = .ok (.ldc_w is, 3) := by rw [hb]; exact d4
  have hstr' : vk_R own is text sa s' := vk_R.warm hW0 hstr
  obtain ⟨U, hsteps, hrun, hend, hW, hsame, ce, hce, hO, hOv⟩ := nx_ctor X₁ hexec htr (own := own) (cls := cls) (Y9 := Y9) (r := r9) (ic := ic) x0 x1 x2 x5 hown' hcls hY9 hr9 h (fun x hx => nomatch hx) hfX hkX hcellA (by rw [hhp, hT]; exact Nat.le_refl _) (msg := .ref sa) rfl
    (g := { method := m, pc := pc + 7, locals := ls, stack := .ref sa :: .ref T.heap.size :: .ref T.heap.size :: rest, locked := none }) rfl hsize rfl rfl (rest := rest) rfl
    (by rw [hb]; exact d7) (by rw [hb]; exact d10) hout hRframes (by simp only [List.map_cons, List.sum_cons, hcat]; omega) hlocks
  obtain ⟨f1, f2⟩ := vx_frame hsame
  rw [hhp] at f1 f2
  have hWs : s.WarmedH U.vm := State.WarmedH.trans hW0 hW
  have hcl : s.vm.findClass cls = some ce.cls := by
    have h9 := hO
    rw [hvm] at h9
    exact h9
  have hall : s.sameButNew ({ U with vm := s.vm } : State) locs mc ms := by
    subst hA
    obtain ⟨e1, e2⟩ := hsame
    rw [State.setFrames_setFrames] at e1
    have h2 : (T.setVm s.vm).sameButNew ({ U with vm := s.vm } : State) [] (0 + 1) (0 + 6) := ⟨e1, e2⟩
    have h3 := X.same.trans h2
    rw [List.append_nil] at h3
    exact h3.mono hc hs
  refine ⟨U, ?_, .threw T.heap.size, hrun, hend, Or.inr ⟨T.heap.size, rfl, cls, ce, locs, hx U hWs.alike f1 (fun q hq => f2 q hq (fun z hz => nomatch hz)), hce, hOv, hcl, hWs, hall, hf⟩⟩
  refine st1 _ ?_
  show Steps p.tables e below (T1.setTop { method := m, pc := pc + 3, locals := ls, stack := .ref T.heap.size :: rest, locked := none }) _
  jvm_step X₁.here [X₁.here.top, hexec, d3', Value.category]
  exact X₁.ldcStringW hexec (own := own) (text := text) (index := is) (a := sa) hown' hstr'.1 hstr'.2
    (g := { method := m, pc := pc + 4, locals := ls, stack := .ref T.heap.size :: .ref T.heap.size :: rest, locked := none }) rfl d4' _ hsteps
end
section
variable {ρ : Type}
/-- what a method's answer says of its end -/
abbrev Qr (below : List Frame) (args : Array Value) (s : State) (D : va_G) (cy : Nat → ClassId) (n0 : Nat) (ad : Nat → Nat → Nat) (nT nO : Nat) (vv : ρ → Option Value) (mc ms : Nat) : ρ × Sg → State → Prop := fun r => MQ below (Qn D cy n0 ad nT nO vv r) args s mc ms (fun q => n0 ≤ q)
abbrev Qz (below : List Frame) (args : Array Value) (s : State) (D : va_G) (cy : Nat → ClassId) (n0 : Nat) (ad : Nat → Nat → Nat) (nT nO : Nat) (vv : ρ → Option Value) (mc ms : Nat) : (Nat ⊕ ρ) × Sg → State → Prop := fun r => vx_MQ below (Qx D cy n0 ad nT nO vv r) (XC D cy n0 ad nT nO r) args s mc ms (fun q => n0 ≤ q)
abbrev vI : Int32 → Option Value := fun v => some (.int v)
abbrev vJ : Int64 → Option Value := fun v => some (.long v)
abbrev vF : UInt32 → Option Value := fun v => some (.float v)
abbrev vD : UInt64 → Option Value := fun v => some (.double v)
abbrev vV : Unit → Option Value := fun _ => none
abbrev vT (ad : Nat → Nat → Nat) : Nat → Option Value := fun i => some (.ref (ad 1 i))
abbrev vO (ad : Nat → Nat → Nat) : Nat → Option Value := fun i => some (.ref (ad 6 i))
variable {p : Program} {l : Launch} {e : Env} {R : Room} {s : State} {m : MethodId} {args : Array Value} {below : List Frame} {meth : Method} {c : Code} {cc : ByteArray} {nL : Nat} {own : String} {D : va_G} {cy : Nat → ClassId} {n0 : Nat} {ad : Nat → Nat → Nat} {nT nO : Nat} {σ : Sg} {H : Heap} {locs : List Loc} {cells slots pc mc ms : Nat} {ls : Array Slot} {rest : List Value} {vv : ρ → Option Value}
theorem nc_of {v : Int32} (h : (v.toUInt32 % 65536).toInt32 = v) : narrow .char (.int v) = .int v := by
  have h1 := pk_nc v
  rw [h] at h1
  exact h1
theorem fc_of {v : Int32} (h : (v.toUInt32 % 65536).toInt32 = v) : fits .char (.int v) = true := by
  have h1 := pk_fc v
  rw [h] at h1
  exact h1
theorem nz_of {v : Int32} (h : v = 0 ∨ v = 1) : narrow .boolean (.int v) = .int v := by
  rcases h with rfl | rfl
  · exact narrow_b0
  · exact narrow_b1
theorem fz_of {v : Int32} (h : v = 0 ∨ v = 1) : fits .boolean (.int v) = true := by
  rcases h with rfl | rfl <;> rfl
theorem s_gd {β : Type} {Qf : β → State → Prop} {o : Option β} {P : Prop} [Decidable P] {g : JFrame} (k : P → Sm Qf o p l e R s m args below meth c H locs cells slots g) : Sm Qf (if P then o else none) p l e R s m args below meth c H locs cells slots g := by
  intro r h
  by_cases hp : P
  · rw [if_pos hp] at h; exact k hp r h
  · rw [if_neg hp] at h; cases h
theorem s_iret (C0 : Cx p l s m args meth c cc nL own D cy n0) (hh : Hp D cy n0 ad nT nO s σ H locs) {v : Int32} {ty : FieldType} (hr : meth.sig.returnType = some ty) (hn : narrow ty (.int v) = .int v) (hc : cells ≤ mc) (hs : slots ≤ ms) (hdg : decode cc pc = .ok (.ireturn, 1)) :
    Sm (Qr below args s D cy n0 ad nT nO vI mc ms) (some (v, σ)) p l e R s m args below meth c H locs cells slots (F0 m pc ls [.int v]) := by
  intro r h
  cases h
  refine W.widen hc hs ?_
  exact W.zret C0.1.1 C0.1.2.1 hr hn (fun t ht hW => ⟨rfl, ⟨by rw [ht]; exact hh.1, hh.2.2.2⟩, hh.2.2.1.F ht⟩) hh.2.2.1.2.2 hdg C0.2.1
theorem s_iretx (C0 : Cx p l s m args meth c cc nL own D cy n0) (hh : Hp D cy n0 ad nT nO s σ H locs) {v : Int32} {ty : FieldType} (hr : meth.sig.returnType = some ty) (hn : narrow ty (.int v) = .int v) (hc : cells ≤ mc) (hs : slots ≤ ms) (hdg : decode cc pc = .ok (.ireturn, 1)) :
    Sm (Qz below args s D cy n0 ad nT nO vI mc ms) (some (.inr v, σ)) p l e R s m args below meth c H locs cells slots (F0 m pc ls [.int v]) := by
  intro r h
  cases h
  refine W.widen hc hs ?_
  exact vx_ret (W.zret C0.1.1 C0.1.2.1 hr hn (fun t ht hW => ⟨⟨_, rfl, rfl⟩, ⟨by rw [ht]; exact hh.1, hh.2.2.2⟩, hh.2.2.1.F ht⟩) hh.2.2.1.2.2 hdg C0.2.1)
theorem s_vret (C0 : Cx p l s m args meth c cc nL own D cy n0) (hh : Hp D cy n0 ad nT nO s σ H locs) (hr : meth.sig.returnType = none) (hc : cells ≤ mc) (hs : slots ≤ ms) (hdg : decode cc pc = .ok (.return_, 1)) :
    Sm (Qr below args s D cy n0 ad nT nO vV mc ms) (some ((), σ)) p l e R s m args below meth c H locs cells slots (F0 m pc ls []) := by
  intro r h
  cases h
  refine W.widen hc hs ?_
  exact W.vret C0.1.1 C0.1.2.1 hr (fun t ht hW => ⟨rfl, ⟨by rw [ht]; exact hh.1, hh.2.2.2⟩, hh.2.2.1.F ht⟩) hh.2.2.1.2.2 hdg C0.2.1
theorem s_vretx (C0 : Cx p l s m args meth c cc nL own D cy n0) (hh : Hp D cy n0 ad nT nO s σ H locs) (hr : meth.sig.returnType = none) (hc : cells ≤ mc) (hs : slots ≤ ms) (hdg : decode cc pc = .ok (.return_, 1)) :
    Sm (Qz below args s D cy n0 ad nT nO vV mc ms) (some (.inr (), σ)) p l e R s m args below meth c H locs cells slots (F0 m pc ls []) := by
  intro r h
  cases h
  refine W.widen hc hs ?_
  exact vx_ret (W.vret C0.1.1 C0.1.2.1 hr (fun t ht hW => ⟨⟨_, rfl, rfl⟩, ⟨by rw [ht]; exact hh.1, hh.2.2.2⟩, hh.2.2.1.F ht⟩) hh.2.2.1.2.2 hdg C0.2.1)
theorem s_lret (C0 : Cx p l s m args meth c cc nL own D cy n0) (hh : Hp D cy n0 ad nT nO s σ H locs) {v : Int64} (hr : meth.sig.returnType = some .long) (hc : cells ≤ mc) (hs : slots ≤ ms) (hdg : decode cc pc = .ok (.lreturn, 1)) :
    Sm (Qr below args s D cy n0 ad nT nO vJ mc ms) (some (v, σ)) p l e R s m args below meth c H locs cells slots (F0 m pc ls [.long v]) := by
  intro r h
  cases h
  refine W.widen hc hs ?_
  exact W.lret C0.1.1 C0.1.2.1 hr (fun t ht hW => ⟨rfl, ⟨by rw [ht]; exact hh.1, hh.2.2.2⟩, hh.2.2.1.F ht⟩) hh.2.2.1.2.2 hdg C0.2.1
theorem s_fret (C0 : Cx p l s m args meth c cc nL own D cy n0) (hh : Hp D cy n0 ad nT nO s σ H locs) {v : UInt32} (hr : meth.sig.returnType = some .float) (hc : cells ≤ mc) (hs : slots ≤ ms) (hdg : decode cc pc = .ok (.freturn, 1)) :
    Sm (Qr below args s D cy n0 ad nT nO vF mc ms) (some (v, σ)) p l e R s m args below meth c H locs cells slots (F0 m pc ls [.float v]) := by
  intro r h
  cases h
  refine W.widen hc hs ?_
  exact W.fret C0.1.1 C0.1.2.1 hr (fun t ht hW => ⟨rfl, ⟨by rw [ht]; exact hh.1, hh.2.2.2⟩, hh.2.2.1.F ht⟩) hh.2.2.1.2.2 hdg C0.2.1
theorem s_fretx (C0 : Cx p l s m args meth c cc nL own D cy n0) (hh : Hp D cy n0 ad nT nO s σ H locs) {v : UInt32} (hr : meth.sig.returnType = some .float) (hc : cells ≤ mc) (hs : slots ≤ ms) (hdg : decode cc pc = .ok (.freturn, 1)) :
    Sm (Qz below args s D cy n0 ad nT nO vF mc ms) (some (.inr v, σ)) p l e R s m args below meth c H locs cells slots (F0 m pc ls [.float v]) := by
  intro r h
  cases h
  refine W.widen hc hs ?_
  exact vx_ret (W.fret C0.1.1 C0.1.2.1 hr (fun t ht hW => ⟨⟨_, rfl, rfl⟩, ⟨by rw [ht]; exact hh.1, hh.2.2.2⟩, hh.2.2.1.F ht⟩) hh.2.2.1.2.2 hdg C0.2.1)
theorem s_dret (C0 : Cx p l s m args meth c cc nL own D cy n0) (hh : Hp D cy n0 ad nT nO s σ H locs) {v : UInt64} (hr : meth.sig.returnType = some .double) (hc : cells ≤ mc) (hs : slots ≤ ms) (hdg : decode cc pc = .ok (.dreturn, 1)) :
    Sm (Qr below args s D cy n0 ad nT nO vD mc ms) (some (v, σ)) p l e R s m args below meth c H locs cells slots (F0 m pc ls [.double v]) := by
  intro r h
  cases h
  refine W.widen hc hs ?_
  exact W.dret C0.1.1 C0.1.2.1 hr (fun t ht hW => ⟨rfl, ⟨by rw [ht]; exact hh.1, hh.2.2.2⟩, hh.2.2.1.F ht⟩) hh.2.2.1.2.2 hdg C0.2.1
theorem s_dretx (C0 : Cx p l s m args meth c cc nL own D cy n0) (hh : Hp D cy n0 ad nT nO s σ H locs) {v : UInt64} (hr : meth.sig.returnType = some .double) (hc : cells ≤ mc) (hs : slots ≤ ms) (hdg : decode cc pc = .ok (.dreturn, 1)) :
    Sm (Qz below args s D cy n0 ad nT nO vD mc ms) (some (.inr v, σ)) p l e R s m args below meth c H locs cells slots (F0 m pc ls [.double v]) := by
  intro r h
  cases h
  refine W.widen hc hs ?_
  exact vx_ret (W.dret C0.1.1 C0.1.2.1 hr (fun t ht hW => ⟨⟨_, rfl, rfl⟩, ⟨by rw [ht]; exact hh.1, hh.2.2.2⟩, hh.2.2.1.F ht⟩) hh.2.2.1.2.2 hdg C0.2.1)
theorem s_aretx (C0 : Cx p l s m args meth c cc nL own D cy n0) (hh : Hp D cy n0 ad nT nO s σ H locs) {kd i : Nat} {rt : FieldType} (hr : meth.sig.returnType = some rt) (hrt : (∃ n, rt = .object n) ∨ ∃ t, rt = .array t) (hc : cells ≤ mc) (hs : slots ≤ ms) (hdg : decode cc pc = .ok (.areturn, 1)) :
    Sm (Qz below args s D cy n0 ad nT nO (fun i => some (.ref (ad kd i))) mc ms) (some (.inr i, σ)) p l e R s m args below meth c H locs cells slots (F0 m pc ls [.ref (ad kd i)]) := by
  intro r h
  cases h
  refine W.widen hc hs ?_
  exact vx_ret (W.aret C0.1.1 C0.1.2.1 hr hrt (Or.inr ⟨_, rfl⟩) (fun t ht hW => ⟨⟨_, rfl, rfl⟩, ⟨by rw [ht]; exact hh.1, hh.2.2.2⟩, hh.2.2.1.F ht⟩) hh.2.2.1.2.2 hdg C0.2.1)
/-- what 'throw new E("text")' asks of the words -/
def axg (ic : Nat) (E : String) : Prop := (∀ w ∈ (vx_atS RX3 ic E ["java/lang/RuntimeException", "java/lang/Exception"]).filter goodWord, w ∈ allw) ∧ (∀ w ∈ (vx_atS RX3 ic E ["java/lang/RuntimeException", "java/lang/Exception"]).filter (fun w => !goodWord w), w ∈ nwl) ∧ (∀ w ∈ vx_atS RX3 ic E ["java/lang/RuntimeException", "java/lang/Exception"], vx_ot w = true) ∧ Bundle.fit E = true
theorem rt_fit : ∀ n ∈ (["java/lang/RuntimeException", "java/lang/Exception"] : List String), Bundle.fit n = true := by decide +kernel
theorem xc_at {k : Nat} {t : State} (hh : Hp D cy n0 ad nT nO s σ H locs) (h1 : H.size ≤ t.heap.size) (h2 : ∀ q : Nat, q < H.size → t.heap[q]? = H[q]?) : XC (ρ := ρ) D cy n0 ad nT nO (.inl k, σ) (exn k) s t :=
  ⟨⟨k, rfl, rfl⟩, ⟨hh.1.kept (fun k' q hk => h2 _ (hh.1 k' q hk).lt), hh.2.2.2⟩, Nat.le_trans hh.2.2.1.1 h1, fun q hq hn => by rw [h2 q (Nat.lt_of_lt_of_le hq hh.2.2.1.1)]; exact hh.2.2.1.2.1 q hq hn⟩
variable {QC : (Nat ⊕ ρ) × Sg → Array Value → State → Outcome → State → Prop}
theorem s_thr {k ik is ic : Nat} {text : String} (C0 : Cx p l s m args meth c cc nL RX3 D cy n0) (hh : Hp D cy n0 ad nT nO s σ H locs) (hg : axg ic (exn k)) (hk : Cond.classLink RX3 ik (exn k) ∈ allw) (hi : Cond.initialized (exn k) ∈ allw) (hs : (is, text) ∈ strl) (hsz : ls.size = nL)
    (d0 : decode cc pc = .ok (.new ik, 3)) (d3 : decode cc (pc + 3) = .ok (.dup, 1)) (d4 : decode cc (pc + 4) = .ok (.ldc is, 2)) (d6 : decode cc (pc + 6) = .ok (.invokespecial ic, 3)) (d9 : decode cc (pc + 9) = .ok (.athrow, 1)) (hout : ∀ x ∈ c.exceptionTable.toList, False)
    (hf : 5 < R.frames) (hl : (rest.map fun v => v.category).sum + 82 ≤ R.locals) (hc : cells + 1 ≤ R.cells) (hs2 : slots + 6 ≤ R.slots) (hc2 : cells + 1 ≤ mc) (hs3 : slots + 6 ≤ ms) :
    Sm (fun r => vx_MQ below (QC r) (XC D cy n0 ad nT nO r) args s mc ms (fun q => n0 ≤ q)) (some (.inl k, σ)) p l e R s m args below meth c H locs cells slots (F0 m pc ls rest) := by
  intro r h
  cases h
  obtain ⟨a, ha⟩ := C0.2.2.2.2.2.1.2.1 _ hs
  exact vx_throwS C0.1.1 C0.1.2.1 C0.2.2.2.2.2.2 C0.1.2.2.2.1 hg.2.2.2 rt_fit (C0.1.2.2.2.2 _ hk) (C0.1.2.2.2.2 _ hi) ha
    (vx_hat (fun w hw => C0.1.2.2.2.2 _ (hg.1 w hw)) hg.2.1 (fun w hw => va_Nw.use (nwk_tab (List.mem_filter.mp hw).2) (C0.2.2.2.2.2.1.1 _ hw)))
    (fun w hw => by
      rcases List.mem_cons.mp hw with rfl | hw
      · rfl
      · rcases List.mem_cons.mp hw with rfl | hw
        · rfl
        · exact hg.2.2.1 w hw)
    C0.2.2.2.2.1.1 C0.2.2.2.2.1.2 hh.2.2.1 (hsz.trans C0.1.2.2.1.symm) d0 d3 d4 d6 d9 (fun x hx => (hout x hx).elim) hf hl hc hs2 C0.2.1 (fun t _ h1 h2 => xc_at hh h1 h2) hh.2.2.1.2.2 hc2 hs3
theorem s_thrw {k ik is ic : Nat} {text : String} (C0 : Cx p l s m args meth c cc nL RX3 D cy n0) (hh : Hp D cy n0 ad nT nO s σ H locs) (hg : axg ic (exn k)) (hk : Cond.classLink RX3 ik (exn k) ∈ allw) (hi : Cond.initialized (exn k) ∈ allw) (hs : (is, text) ∈ strl) (hsz : ls.size = nL)
    (d0 : decode cc pc = .ok (.new ik, 3)) (d3 : decode cc (pc + 3) = .ok (.dup, 1)) (d4 : decode cc (pc + 4) = .ok (.ldc_w is, 3)) (d7 : decode cc (pc + 7) = .ok (.invokespecial ic, 3)) (d10 : decode cc (pc + 10) = .ok (.athrow, 1)) (hout : ∀ x ∈ c.exceptionTable.toList, False)
    (hf : 5 < R.frames) (hl : (rest.map fun v => v.category).sum + 82 ≤ R.locals) (hc : cells + 1 ≤ R.cells) (hs2 : slots + 6 ≤ R.slots) (hc2 : cells + 1 ≤ mc) (hs3 : slots + 6 ≤ ms) :
    Sm (fun r => vx_MQ below (QC r) (XC D cy n0 ad nT nO r) args s mc ms (fun q => n0 ≤ q)) (some (.inl k, σ)) p l e R s m args below meth c H locs cells slots (F0 m pc ls rest) := by
  intro r h
  cases h
  obtain ⟨a, ha⟩ := C0.2.2.2.2.2.1.2.1 _ hs
  exact vx_throwSW C0.1.1 C0.1.2.1 C0.2.2.2.2.2.2 C0.1.2.2.2.1 hg.2.2.2 rt_fit (C0.1.2.2.2.2 _ hk) (C0.1.2.2.2.2 _ hi) ha
    (vx_hat (fun w hw => C0.1.2.2.2.2 _ (hg.1 w hw)) hg.2.1 (fun w hw => va_Nw.use (nwk_tab (List.mem_filter.mp hw).2) (C0.2.2.2.2.2.1.1 _ hw)))
    (fun w hw => by
      rcases List.mem_cons.mp hw with rfl | hw
      · rfl
      · rcases List.mem_cons.mp hw with rfl | hw
        · rfl
        · exact hg.2.2.1 w hw)
    C0.2.2.2.2.1.1 C0.2.2.2.2.1.2 hh.2.2.1 (hsz.trans C0.1.2.2.1.symm) d0 d3 d4 d7 d10 (fun x hx => (hout x hx).elim) hf hl hc hs2 C0.2.1 (fun t _ h1 h2 => xc_at hh h1 h2) hh.2.2.1.2.2 hc2 hs3
def axn (ic ix : Nat) (rx : ByteArray) (E : String) : Prop := (∀ w ∈ (nx_at RX3 ic E ix rx "java/lang/RuntimeException" ["java/lang/Exception"]).filter goodWord, w ∈ allw) ∧ (∀ w ∈ (nx_at RX3 ic E ix rx "java/lang/RuntimeException" ["java/lang/Exception"]).filter (fun w => !goodWord w), w ∈ nwl) ∧ (∀ w ∈ nx_at RX3 ic E ix rx "java/lang/RuntimeException" ["java/lang/Exception"], vx_ot w = true) ∧ Bundle.fit E = true
  ∧ decode rx 0 = .ok (.aload_n 0, 1) ∧ decode rx 1 = .ok (.aload_n 1, 1) ∧ decode rx 2 = .ok (.invokespecial ix, 3) ∧ decode rx 5 = .ok (.return_, 1)
theorem s_thn {k ik is ic ix : Nat} {rx : ByteArray} {text : String} (C0 : Cx p l s m args meth c cc nL RX3 D cy n0) (hh : Hp D cy n0 ad nT nO s σ H locs) (hg : axn ic ix rx (exn k)) (hk : Cond.classLink RX3 ik (exn k) ∈ allw) (hi : Cond.initialized (exn k) ∈ allw) (hs : (is, text) ∈ strl) (hsz : ls.size = nL)
    (d0 : decode cc pc = .ok (.new ik, 3)) (d3 : decode cc (pc + 3) = .ok (.dup, 1)) (d4 : decode cc (pc + 4) = .ok (.ldc_w is, 3)) (d7 : decode cc (pc + 7) = .ok (.invokespecial ic, 3)) (d10 : decode cc (pc + 10) = .ok (.athrow, 1)) (hout : ∀ x ∈ c.exceptionTable.toList, False)
    (hf : 5 < R.frames) (hl : (rest.map fun v => v.category).sum + 82 ≤ R.locals) (hc : cells + 1 ≤ R.cells) (hs2 : slots + 6 ≤ R.slots) (hc2 : cells + 1 ≤ mc) (hs3 : slots + 6 ≤ ms) :
    Sm (fun r => vx_MQ below (QC r) (XC D cy n0 ad nT nO r) args s mc ms (fun q => n0 ≤ q)) (some (.inl k, σ)) p l e R s m args below meth c H locs cells slots (F0 m pc ls rest) := by
  intro r h
  cases h
  obtain ⟨a, ha⟩ := C0.2.2.2.2.2.1.2.1 _ hs
  exact nx_throwSW C0.1.1 C0.1.2.1 C0.2.2.2.2.2.2 C0.1.2.2.2.1 hg.2.2.2.1 (by decide +kernel) (by decide +kernel) hg.2.2.2.2.1 hg.2.2.2.2.2.1 hg.2.2.2.2.2.2.1 hg.2.2.2.2.2.2.2 (C0.1.2.2.2.2 _ hk) (C0.1.2.2.2.2 _ hi) ha
    (vx_hat (fun w hw => C0.1.2.2.2.2 _ (hg.1 w hw)) hg.2.1 (fun w hw => va_Nw.use (nwk_tab (List.mem_filter.mp hw).2) (C0.2.2.2.2.2.1.1 _ hw)))
    (fun w hw => by
      rcases List.mem_cons.mp hw with rfl | hw
      · rfl
      · rcases List.mem_cons.mp hw with rfl | hw
        · rfl
        · exact hg.2.2.1 w hw)
    C0.2.2.2.2.1.1 C0.2.2.2.2.1.2 hh.2.2.1 (hsz.trans C0.1.2.2.1.symm) d0 d3 d4 d7 d10 (fun x hx => (hout x hx).elim) hf hl hc hs2 C0.2.1 (fun t _ h1 h2 => xc_at hh h1 h2) hh.2.2.1.2.2 hc2 hs3
/-- a callee's throw that goes on to the caller -/
theorem px {r : Nat × Sg} {x : (Nat ⊕ ρ) × Sg} {cel : Cell} {q9 : Addr} (C0 : Cx p l s m args meth c cc nL own D cy n0) (hx : (some (.inl r.1, r.2) : Option ((Nat ⊕ ρ) × Sg)) = some x) (hh : Hp D cy n0 ad nT nO s r.2 H locs) (hce : H[q9]? = some cel) (hcv : cel.vm = .none) (hcl : s.vm.findClass (exn r.1) = some cel.cls)
    (hout : ∀ x ∈ c.exceptionTable.toList, False) (hc : cells ≤ mc) (hs : slots ≤ ms) :
    vx_W p l e R s m args below meth c H locs cells slots (vx_MQ below (QC x) (XC D cy n0 ad nT nO x) args s mc ms (fun q => n0 ≤ q)) (F0 m pc ls rest) q9 := by
  cases hx
  exact vx_out (fun x hx => (hout x hx).elim) C0.2.1 hce hcv hcl (fun t ht _ => xc_at hh (by rw [ht]; exact Nat.le_refl _) (fun q _ => by rw [ht])) hh.2.2.1.2.2 hc hs
variable {ρ' : Type} {vv' : ρ' → Option Value} {y : MethodName} {bytes : ByteArray} {maxL kc ks n index : Nat} {ret : Option FieldType} {ws : List Cond} {rm : Room} {As st0 : List Value} {o : Option (ρ' × Sg)} {ox : Option ((Nat ⊕ ρ') × Sg)}
/-- invokevirtual of a method that may throw, by one that doesn't catch -/
theorem s_Vx {k : ρ' × Sg → Option ((Nat ⊕ ρ) × Sg)} {C : String} {kd i ci : Nat} {T : u_T} {N : Nat} {fs : List Value} (C0 : Cx p l s m args meth c cc nL own D cy n0) (hh : Hp D cy n0 ad nT nO s σ H locs) (hM : CtX l y ws rm kc ks vv' (.ref (ad kd i) :: As) D cy n0 ad nT nO σ ox)
    (cw : CallW R s args own C index y bytes maxL ret ws rm kc ks n) (hr : (kd, i) ∈ rl nT nO) (he : ce ad cy σ kd i = .inr (ci, fs)) (hc : kcl[ci]? = some (C, T, N)) (hn : As.length = n) (hsz : ls.size = nL) (hst : st0 = As.reverse ++ .ref (ad kd i) :: rest) (hW : 2 * (F0 m pc ls st0).monitorRoom + (rest.map fun v => v.category).sum ≤ 8)
    (hdg : decode cc pc = .ok (.invokevirtual index, 3)) (hf : cells + kc ≤ R.cells ∧ slots + ks ≤ R.slots) (hout : ∀ x ∈ c.exceptionTable.toList, False) (hc2 : cells + kc ≤ mc) (hs2 : slots + ks ≤ ms)
    (kk : ∀ (r : ρ' × Sg) (H1 : Heap) (locs1 : List Loc), ox = some (.inr r.1, r.2) → Hp D cy n0 ad nT nO s r.2 H1 locs1 → Sm (fun r => vx_MQ below (QC r) (XC D cy n0 ad nT nO r) args s mc ms (fun q => n0 ≤ q)) (k r) p l e R s m args below meth c H1 locs1 (cells + kc) (slots + ks) (F0 m (pc + 3) ls ((vv' r.1).toList ++ rest))) :
    Sm (fun r => vx_MQ below (QC r) (XC D cy n0 ad nT nO r) args s mc ms (fun q => n0 ≤ q)) (bx ox k (fun x => some (.inl x.1, x.2))) p l e R s m args below meth c H locs cells slots (F0 m pc ls st0) := by
  refine run_x (As := .ref (ad kd i) :: As) hh (fun r ho => ?_) (fun r x H1 locs1 cel q9 hx hh1 hce hcv hcl => px C0 hx hh1 hce hcv hcl hout hc2 hs2) kk
  obtain ⟨q, hq, -⟩ := wd_get (ad := ad) (cy := cy) (σ := σ) hr
  rw [he] at hq
  exact vx_runV (As := As) (rest := rest) C0.1 (hM r ho) cw ⟨Pw_blind, va_recv C0.2.2.1 hh.1 (q := (C, T, N)) hc hq, fun U hU hW => ⟨rfl, hh.pw C0 U hU hW⟩⟩ rfl hn hsz hst hW hdg hf
theorem s_Sx {k : ρ' × Sg → Option ((Nat ⊕ ρ) × Sg)} (C0 : Cx p l s m args meth c cc nL own D cy n0) (hh : Hp D cy n0 ad nT nO s σ H locs) (hM : CtX l y ws rm kc ks vv' As D cy n0 ad nT nO σ ox)
    (cw : CallB R s args own index y bytes maxL ret ws rm kc ks n ∧ (Cond.static y).before args s = true) (hn : As.length = n) (hsz : ls.size = nL) (hst : st0 = As.reverse ++ rest) (hW : 2 * (F0 m pc ls st0).monitorRoom + (rest.map fun v => v.category).sum ≤ 8)
    (hdg : decode cc pc = .ok (.invokestatic index, 3)) (hf : cells + kc ≤ R.cells ∧ slots + ks ≤ R.slots) (hout : ∀ x ∈ c.exceptionTable.toList, False) (hc2 : cells + kc ≤ mc) (hs2 : slots + ks ≤ ms)
    (kk : ∀ (r : ρ' × Sg) (H1 : Heap) (locs1 : List Loc), ox = some (.inr r.1, r.2) → Hp D cy n0 ad nT nO s r.2 H1 locs1 → Sm (fun r => vx_MQ below (QC r) (XC D cy n0 ad nT nO r) args s mc ms (fun q => n0 ≤ q)) (k r) p l e R s m args below meth c H1 locs1 (cells + kc) (slots + ks) (F0 m (pc + 3) ls ((vv' r.1).toList ++ rest))) :
    Sm (fun r => vx_MQ below (QC r) (XC D cy n0 ad nT nO r) args s mc ms (fun q => n0 ≤ q)) (bx ox k (fun x => some (.inl x.1, x.2))) p l e R s m args below meth c H locs cells slots (F0 m pc ls st0) := by
  refine run_x (As := As) hh (fun r ho => ?_) (fun r x H1 locs1 cel q9 hx hh1 hce hcv hcl => px C0 hx hh1 hce hcv hcl hout hc2 hs2) kk
  exact vx_runS (As := As) (rest := rest) C0.1 (hM r ho) cw ⟨Pw_blind, fun U hU hW => ⟨rfl, hh.pw C0 U hU hW⟩⟩ rfl hn hsz hst hW hdg hf
end
