section VRows
variable {G : vG} {B : Nat} {p : Program} {l : Launch} {e : Env} {R : Room} {s : State} {m : MethodId} {args : Array Value} {below : List Frame} {meth : Method} {c : Code} {nL cells slots : Nat} {Q : State → Prop} {w : vW} {cc : ByteArray} {ret : Option FieldType} {own : String} {pc pc' : Nat} {lv : List (Nat × Value)} {st : List Value}
theorem v_iconst (C : vC G B p m meth c cc nL ret s args own) {n : Int} {v : Int32} (hd : vD cc pc (.iconst n) 1 pc') (hv : Int32.ofInt n = v) (k : V G B p l e R s m args below meth c nL cells slots Q w pc' lv (.int v :: st)) : V G B p l e R s m args below meth c nL cells slots Q w pc lv (st) := by
  intro H locs ls h1 h2 h3
  have k := k H locs ls h1 h2 h3
  rw [hd.2] at k
  exact lv_iconst C.1.1 C.1.2.1 hd.1 hv k
theorem v_bipush (C : vC G B p m meth c cc nL ret s args own) {n : Int} {v : Int32} (hd : vD cc pc (.bipush n) 2 pc') (hv : (Int8.ofInt n).toInt32 = v) (k : V G B p l e R s m args below meth c nL cells slots Q w pc' lv (.int v :: st)) : V G B p l e R s m args below meth c nL cells slots Q w pc lv (st) := by
  intro H locs ls h1 h2 h3
  have k := k H locs ls h1 h2 h3
  rw [hd.2] at k
  exact lv_bipush C.1.1 C.1.2.1 hd.1 hv k
theorem v_sipush (C : vC G B p m meth c cc nL ret s args own) {n : Int} {v : Int32} (hd : vD cc pc (.sipush n) 3 pc') (hv : (Int16.ofInt n).toInt32 = v) (k : V G B p l e R s m args below meth c nL cells slots Q w pc' lv (.int v :: st)) : V G B p l e R s m args below meth c nL cells slots Q w pc lv (st) := by
  intro H locs ls h1 h2 h3
  have k := k H locs ls h1 h2 h3
  rw [hd.2] at k
  exact lv_sipush C.1.1 C.1.2.1 hd.1 hv k
theorem v_lconst (C : vC G B p m meth c cc nL ret s args own) {n : Fin 2} {v : Int64} (hd : vD cc pc (.lconst n) 1 pc') (hv : Int64.ofNat (n : Nat) = v) (k : V G B p l e R s m args below meth c nL cells slots Q w pc' lv (.long v :: st)) : V G B p l e R s m args below meth c nL cells slots Q w pc lv (st) := by
  intro H locs ls h1 h2 h3
  have k := k H locs ls h1 h2 h3
  rw [hd.2] at k
  exact lv_lconst C.1.1 C.1.2.1 hd.1 hv k
theorem v_ldc (C : vC G B p m meth c cc nL ret s args own) {index : Nat} {v : Int32} (hd : vD cc pc (.ldc index) 2 pc') (hw : Cond.constant own index v ∈ vGW) (k : V G B p l e R s m args below meth c nL cells slots Q w pc' lv (.int v :: st)) : V G B p l e R s m args below meth c nL cells slots Q w pc lv (st) := by
  intro H locs ls h1 h2 h3
  have k := k H locs ls h1 h2 h3
  rw [hd.2] at k
  exact lv_ldc C.1.1 C.1.2.1 C.1.2.2.2.1 (C.1.2.2.2.2 _ hw) hd.1 k
theorem v_ldcw (C : vC G B p m meth c cc nL ret s args own) {index : Nat} {v : Int32} (hd : vD cc pc (.ldc_w index) 3 pc') (hw : Cond.constant own index v ∈ vGW) (k : V G B p l e R s m args below meth c nL cells slots Q w pc' lv (.int v :: st)) : V G B p l e R s m args below meth c nL cells slots Q w pc lv (st) := by
  intro H locs ls h1 h2 h3
  have k := k H locs ls h1 h2 h3
  rw [hd.2] at k
  exact lv_ldcw C.1.1 C.1.2.1 C.1.2.2.2.1 (C.1.2.2.2.2 _ hw) hd.1 k
theorem v_ldc2 (C : vC G B p m meth c cc nL ret s args own) {index : Nat} {v : Int64} (hd : vD cc pc (.ldc2_w index) 3 pc') (hw : Cond.constantLong own index v ∈ vGW) (k : V G B p l e R s m args below meth c nL cells slots Q w pc' lv (.long v :: st)) : V G B p l e R s m args below meth c nL cells slots Q w pc lv (st) := by
  intro H locs ls h1 h2 h3
  have k := k H locs ls h1 h2 h3
  rw [hd.2] at k
  exact lv_ldc2 C.1.1 C.1.2.1 C.1.2.2.2.1 (C.1.2.2.2.2 _ hw) hd.1 k
theorem v_iload_n (C : vC G B p m meth c cc nL ret s args own) {k0 : Fin 4} {i : Nat} {x : Int32} (hd : vD cc pc (.iload_n k0) 1 pc') (hi : (k0 : Nat) = i) (j : Nat) (hj : lv[j]? = some (i, .int x)) (k : V G B p l e R s m args below meth c nL cells slots Q w pc' lv (.int x :: st)) : V G B p l e R s m args below meth c nL cells slots Q w pc lv (st) := by
  intro H locs ls h1 h2 h3
  have k := k H locs ls h1 h2 h3
  rw [hd.2] at k
  exact lv_iload_n C.1.1 C.1.2.1 hd.1 hi (lv_at h3 j hj) k
theorem v_iload (C : vC G B p m meth c cc nL ret s args own) {i : Nat} {x : Int32} (hd : vD cc pc (.iload i) 2 pc') (j : Nat) (hj : lv[j]? = some (i, .int x)) (k : V G B p l e R s m args below meth c nL cells slots Q w pc' lv (.int x :: st)) : V G B p l e R s m args below meth c nL cells slots Q w pc lv (st) := by
  intro H locs ls h1 h2 h3
  have k := k H locs ls h1 h2 h3
  rw [hd.2] at k
  exact lv_iload C.1.1 C.1.2.1 hd.1 (lv_at h3 j hj) k
theorem v_lload_n (C : vC G B p m meth c cc nL ret s args own) {k0 : Fin 4} {i : Nat} {x : Int64} (hd : vD cc pc (.lload_n k0) 1 pc') (hi : (k0 : Nat) = i) (j : Nat) (hj : lv[j]? = some (i, .long x)) (k : V G B p l e R s m args below meth c nL cells slots Q w pc' lv (.long x :: st)) : V G B p l e R s m args below meth c nL cells slots Q w pc lv (st) := by
  intro H locs ls h1 h2 h3
  have k := k H locs ls h1 h2 h3
  rw [hd.2] at k
  exact lv_lload_n C.1.1 C.1.2.1 hd.1 hi (lv_at h3 j hj) k
theorem v_lload (C : vC G B p m meth c cc nL ret s args own) {i : Nat} {x : Int64} (hd : vD cc pc (.lload i) 2 pc') (j : Nat) (hj : lv[j]? = some (i, .long x)) (k : V G B p l e R s m args below meth c nL cells slots Q w pc' lv (.long x :: st)) : V G B p l e R s m args below meth c nL cells slots Q w pc lv (st) := by
  intro H locs ls h1 h2 h3
  have k := k H locs ls h1 h2 h3
  rw [hd.2] at k
  exact lv_lload C.1.1 C.1.2.1 hd.1 (lv_at h3 j hj) k
theorem v_aload_n (C : vC G B p m meth c cc nL ret s args own) {k0 : Fin 4} {i : Nat} {x : Nat} (hd : vD cc pc (.aload_n k0) 1 pc') (hi : (k0 : Nat) = i) (j : Nat) (hj : lv[j]? = some (i, .ref x)) (k : V G B p l e R s m args below meth c nL cells slots Q w pc' lv (.ref x :: st)) : V G B p l e R s m args below meth c nL cells slots Q w pc lv (st) := by
  intro H locs ls h1 h2 h3
  have k := k H locs ls h1 h2 h3
  rw [hd.2] at k
  exact lv_aload_n C.1.1 C.1.2.1 hd.1 hi (lv_at h3 j hj) k
theorem v_aload (C : vC G B p m meth c cc nL ret s args own) {i : Nat} {x : Nat} (hd : vD cc pc (.aload i) 2 pc') (j : Nat) (hj : lv[j]? = some (i, .ref x)) (k : V G B p l e R s m args below meth c nL cells slots Q w pc' lv (.ref x :: st)) : V G B p l e R s m args below meth c nL cells slots Q w pc lv (st) := by
  intro H locs ls h1 h2 h3
  have k := k H locs ls h1 h2 h3
  rw [hd.2] at k
  exact lv_aload C.1.1 C.1.2.1 hd.1 (lv_at h3 j hj) k
theorem v_istore_n (C : vC G B p m meth c cc nL ret s args own) {k0 : Fin 4} {i : Nat} {x : Int32} {lv' : List (Nat × Value)} (hd : vD cc pc (.istore_n k0) 1 pc') (hi : (k0 : Nat) = i) (hn : i < nL) (ks : List Nat) (hl : lv_pick ((i, Value.int x) :: lv.filter (fun q => !(q.1 == i) && !(q.1 + 1 == i && q.2.category == 2))) ks = lv') (k : V G B p l e R s m args below meth c nL cells slots Q w pc' lv' st) : V G B p l e R s m args below meth c nL cells slots Q w pc lv (.int x :: st) := by
  intro H locs ls h1 h2 h3
  rw [hd.2] at k
  exact lv_istore_n C.1.1 C.1.2.1 hd.1 hi h3 hn rfl (fun ls' h4 => k H locs ls' h1 h2 (lv_sub h4 ks hl))
theorem v_istore (C : vC G B p m meth c cc nL ret s args own) {i : Nat} {x : Int32} {lv' : List (Nat × Value)} (hd : vD cc pc (.istore i) 2 pc') (hn : i < nL) (ks : List Nat) (hl : lv_pick ((i, Value.int x) :: lv.filter (fun q => !(q.1 == i) && !(q.1 + 1 == i && q.2.category == 2))) ks = lv') (k : V G B p l e R s m args below meth c nL cells slots Q w pc' lv' st) : V G B p l e R s m args below meth c nL cells slots Q w pc lv (.int x :: st) := by
  intro H locs ls h1 h2 h3
  rw [hd.2] at k
  exact lv_istore C.1.1 C.1.2.1 hd.1 h3 hn rfl (fun ls' h4 => k H locs ls' h1 h2 (lv_sub h4 ks hl))
theorem v_lstore_n (C : vC G B p m meth c cc nL ret s args own) {k0 : Fin 4} {i : Nat} {x : Int64} {lv' : List (Nat × Value)} (hd : vD cc pc (.lstore_n k0) 1 pc') (hi : (k0 : Nat) = i) (hn : i + 1 < nL) (ks : List Nat) (hl : lv_pick ((i, Value.long x) :: lv.filter (fun q => !(q.1 == i) && (!(q.1 == i + 1) && !(q.1 + 1 == i && q.2.category == 2)))) ks = lv') (k : V G B p l e R s m args below meth c nL cells slots Q w pc' lv' st) : V G B p l e R s m args below meth c nL cells slots Q w pc lv (.long x :: st) := by
  intro H locs ls h1 h2 h3
  rw [hd.2] at k
  exact lv_lstore_n C.1.1 C.1.2.1 hd.1 hi h3 hn rfl (fun ls' h4 => k H locs ls' h1 h2 (lv_sub h4 ks hl))
theorem v_lstore (C : vC G B p m meth c cc nL ret s args own) {i : Nat} {x : Int64} {lv' : List (Nat × Value)} (hd : vD cc pc (.lstore i) 2 pc') (hn : i + 1 < nL) (ks : List Nat) (hl : lv_pick ((i, Value.long x) :: lv.filter (fun q => !(q.1 == i) && (!(q.1 == i + 1) && !(q.1 + 1 == i && q.2.category == 2)))) ks = lv') (k : V G B p l e R s m args below meth c nL cells slots Q w pc' lv' st) : V G B p l e R s m args below meth c nL cells slots Q w pc lv (.long x :: st) := by
  intro H locs ls h1 h2 h3
  rw [hd.2] at k
  exact lv_lstore C.1.1 C.1.2.1 hd.1 h3 hn rfl (fun ls' h4 => k H locs ls' h1 h2 (lv_sub h4 ks hl))
theorem v_astore_n (C : vC G B p m meth c cc nL ret s args own) {k0 : Fin 4} {i : Nat} {x : Nat} {lv' : List (Nat × Value)} (hd : vD cc pc (.astore_n k0) 1 pc') (hi : (k0 : Nat) = i) (hn : i < nL) (ks : List Nat) (hl : lv_pick ((i, Value.ref x) :: lv.filter (fun q => !(q.1 == i) && !(q.1 + 1 == i && q.2.category == 2))) ks = lv') (k : V G B p l e R s m args below meth c nL cells slots Q w pc' lv' st) : V G B p l e R s m args below meth c nL cells slots Q w pc lv (.ref x :: st) := by
  intro H locs ls h1 h2 h3
  rw [hd.2] at k
  exact lv_astore_n C.1.1 C.1.2.1 hd.1 hi h3 hn rfl (fun ls' h4 => k H locs ls' h1 h2 (lv_sub h4 ks hl))
theorem v_astore (C : vC G B p m meth c cc nL ret s args own) {i : Nat} {x : Nat} {lv' : List (Nat × Value)} (hd : vD cc pc (.astore i) 2 pc') (hn : i < nL) (ks : List Nat) (hl : lv_pick ((i, Value.ref x) :: lv.filter (fun q => !(q.1 == i) && !(q.1 + 1 == i && q.2.category == 2))) ks = lv') (k : V G B p l e R s m args below meth c nL cells slots Q w pc' lv' st) : V G B p l e R s m args below meth c nL cells slots Q w pc lv (.ref x :: st) := by
  intro H locs ls h1 h2 h3
  rw [hd.2] at k
  exact lv_astore C.1.1 C.1.2.1 hd.1 h3 hn rfl (fun ls' h4 => k H locs ls' h1 h2 (lv_sub h4 ks hl))
theorem v_iinc (C : vC G B p m meth c cc nL ret s args own) {i : Nat} {n : Int} {x v : Int32} {lv' : List (Nat × Value)} (hd : vD cc pc (.iinc i n) 3 pc') (j : Nat) (hj : lv[j]? = some (i, .int x)) (hv : x + Int32.ofInt n = v) (hn : i < nL) (ks : List Nat) (hl : lv_pick ((i, Value.int v) :: lv.filter (fun q => !(q.1 == i) && !(q.1 + 1 == i && q.2.category == 2))) ks = lv') (k : V G B p l e R s m args below meth c nL cells slots Q w pc' lv' st) : V G B p l e R s m args below meth c nL cells slots Q w pc lv st := by
  intro H locs ls h1 h2 h3
  rw [hd.2] at k
  exact lv_iinc C.1.1 C.1.2.1 hd.1 h3 hj hv hn rfl (fun ls' h4 => k H locs ls' h1 h2 (lv_sub h4 ks hl))
theorem v_iadd (C : vC G B p m meth c cc nL ret s args own) {x y : Int32} (hd : vD cc pc .iadd 1 pc')  (k : V G B p l e R s m args below meth c nL cells slots Q w pc' lv (.int (x + y) :: st)) : V G B p l e R s m args below meth c nL cells slots Q w pc lv (.int y :: .int x :: st) := by
  intro H locs ls h1 h2 h3
  have k := k H locs ls h1 h2 h3
  rw [hd.2] at k
  exact lv_iadd C.1.1 C.1.2.1 hd.1 k
theorem v_isub (C : vC G B p m meth c cc nL ret s args own) {x y : Int32} (hd : vD cc pc .isub 1 pc')  (k : V G B p l e R s m args below meth c nL cells slots Q w pc' lv (.int (x - y) :: st)) : V G B p l e R s m args below meth c nL cells slots Q w pc lv (.int y :: .int x :: st) := by
  intro H locs ls h1 h2 h3
  have k := k H locs ls h1 h2 h3
  rw [hd.2] at k
  exact lv_isub C.1.1 C.1.2.1 hd.1 k
theorem v_imul (C : vC G B p m meth c cc nL ret s args own) {x y : Int32} (hd : vD cc pc .imul 1 pc')  (k : V G B p l e R s m args below meth c nL cells slots Q w pc' lv (.int (x * y) :: st)) : V G B p l e R s m args below meth c nL cells slots Q w pc lv (.int y :: .int x :: st) := by
  intro H locs ls h1 h2 h3
  have k := k H locs ls h1 h2 h3
  rw [hd.2] at k
  exact lv_imul C.1.1 C.1.2.1 hd.1 k
theorem v_iand (C : vC G B p m meth c cc nL ret s args own) {x y : Int32} (hd : vD cc pc .iand 1 pc')  (k : V G B p l e R s m args below meth c nL cells slots Q w pc' lv (.int (x &&& y) :: st)) : V G B p l e R s m args below meth c nL cells slots Q w pc lv (.int y :: .int x :: st) := by
  intro H locs ls h1 h2 h3
  have k := k H locs ls h1 h2 h3
  rw [hd.2] at k
  exact lv_iand C.1.1 C.1.2.1 hd.1 k
theorem v_ior (C : vC G B p m meth c cc nL ret s args own) {x y : Int32} (hd : vD cc pc .ior 1 pc')  (k : V G B p l e R s m args below meth c nL cells slots Q w pc' lv (.int (x ||| y) :: st)) : V G B p l e R s m args below meth c nL cells slots Q w pc lv (.int y :: .int x :: st) := by
  intro H locs ls h1 h2 h3
  have k := k H locs ls h1 h2 h3
  rw [hd.2] at k
  exact lv_ior C.1.1 C.1.2.1 hd.1 k
theorem v_ixor (C : vC G B p m meth c cc nL ret s args own) {x y : Int32} (hd : vD cc pc .ixor 1 pc')  (k : V G B p l e R s m args below meth c nL cells slots Q w pc' lv (.int (x ^^^ y) :: st)) : V G B p l e R s m args below meth c nL cells slots Q w pc lv (.int y :: .int x :: st) := by
  intro H locs ls h1 h2 h3
  have k := k H locs ls h1 h2 h3
  rw [hd.2] at k
  exact lv_ixor C.1.1 C.1.2.1 hd.1 k
theorem v_ishl (C : vC G B p m meth c cc nL ret s args own) {x y : Int32} (hd : vD cc pc .ishl 1 pc')  (k : V G B p l e R s m args below meth c nL cells slots Q w pc' lv (.int (x <<< (y &&& 31)) :: st)) : V G B p l e R s m args below meth c nL cells slots Q w pc lv (.int y :: .int x :: st) := by
  intro H locs ls h1 h2 h3
  have k := k H locs ls h1 h2 h3
  rw [hd.2] at k
  exact lv_ishl C.1.1 C.1.2.1 hd.1 k
theorem v_ishr (C : vC G B p m meth c cc nL ret s args own) {x y : Int32} (hd : vD cc pc .ishr 1 pc')  (k : V G B p l e R s m args below meth c nL cells slots Q w pc' lv (.int (x >>> (y &&& 31)) :: st)) : V G B p l e R s m args below meth c nL cells slots Q w pc lv (.int y :: .int x :: st) := by
  intro H locs ls h1 h2 h3
  have k := k H locs ls h1 h2 h3
  rw [hd.2] at k
  exact lv_ishr C.1.1 C.1.2.1 hd.1 k
theorem v_iushr (C : vC G B p m meth c cc nL ret s args own) {x y : Int32} (hd : vD cc pc .iushr 1 pc')  (k : V G B p l e R s m args below meth c nL cells slots Q w pc' lv (.int ((x.toUInt32 >>> (y.toUInt32 &&& Int32.toUInt32 31)).toInt32) :: st)) : V G B p l e R s m args below meth c nL cells slots Q w pc lv (.int y :: .int x :: st) := by
  intro H locs ls h1 h2 h3
  have k := k H locs ls h1 h2 h3
  rw [hd.2] at k
  exact lv_iushr C.1.1 C.1.2.1 hd.1 rfl k
theorem v_ladd (C : vC G B p m meth c cc nL ret s args own) {x y : Int64} (hd : vD cc pc .ladd 1 pc')  (k : V G B p l e R s m args below meth c nL cells slots Q w pc' lv (.long (x + y) :: st)) : V G B p l e R s m args below meth c nL cells slots Q w pc lv (.long y :: .long x :: st) := by
  intro H locs ls h1 h2 h3
  have k := k H locs ls h1 h2 h3
  rw [hd.2] at k
  exact lv_ladd C.1.1 C.1.2.1 hd.1 k
theorem v_lsub (C : vC G B p m meth c cc nL ret s args own) {x y : Int64} (hd : vD cc pc .lsub 1 pc')  (k : V G B p l e R s m args below meth c nL cells slots Q w pc' lv (.long (x - y) :: st)) : V G B p l e R s m args below meth c nL cells slots Q w pc lv (.long y :: .long x :: st) := by
  intro H locs ls h1 h2 h3
  have k := k H locs ls h1 h2 h3
  rw [hd.2] at k
  exact lv_lsub C.1.1 C.1.2.1 hd.1 k
theorem v_lmul (C : vC G B p m meth c cc nL ret s args own) {x y : Int64} (hd : vD cc pc .lmul 1 pc')  (k : V G B p l e R s m args below meth c nL cells slots Q w pc' lv (.long (x * y) :: st)) : V G B p l e R s m args below meth c nL cells slots Q w pc lv (.long y :: .long x :: st) := by
  intro H locs ls h1 h2 h3
  have k := k H locs ls h1 h2 h3
  rw [hd.2] at k
  exact lv_lmul C.1.1 C.1.2.1 hd.1 k
theorem v_land (C : vC G B p m meth c cc nL ret s args own) {x y : Int64} (hd : vD cc pc .land 1 pc')  (k : V G B p l e R s m args below meth c nL cells slots Q w pc' lv (.long (x &&& y) :: st)) : V G B p l e R s m args below meth c nL cells slots Q w pc lv (.long y :: .long x :: st) := by
  intro H locs ls h1 h2 h3
  have k := k H locs ls h1 h2 h3
  rw [hd.2] at k
  exact lv_land C.1.1 C.1.2.1 hd.1 k
theorem v_lor (C : vC G B p m meth c cc nL ret s args own) {x y : Int64} (hd : vD cc pc .lor 1 pc')  (k : V G B p l e R s m args below meth c nL cells slots Q w pc' lv (.long (x ||| y) :: st)) : V G B p l e R s m args below meth c nL cells slots Q w pc lv (.long y :: .long x :: st) := by
  intro H locs ls h1 h2 h3
  have k := k H locs ls h1 h2 h3
  rw [hd.2] at k
  exact lv_lor C.1.1 C.1.2.1 hd.1 k
theorem v_lxor (C : vC G B p m meth c cc nL ret s args own) {x y : Int64} (hd : vD cc pc .lxor 1 pc')  (k : V G B p l e R s m args below meth c nL cells slots Q w pc' lv (.long (x ^^^ y) :: st)) : V G B p l e R s m args below meth c nL cells slots Q w pc lv (.long y :: .long x :: st) := by
  intro H locs ls h1 h2 h3
  have k := k H locs ls h1 h2 h3
  rw [hd.2] at k
  exact lv_lxor C.1.1 C.1.2.1 hd.1 k
theorem v_lushr (C : vC G B p m meth c cc nL ret s args own) {x : Int64} {y : Int32} (hd : vD cc pc .lushr 1 pc')  (k : V G B p l e R s m args below meth c nL cells slots Q w pc' lv (.long ((x.toUInt64 >>> (y.toInt64.toUInt64 &&& Int64.toUInt64 63)).toInt64) :: st)) : V G B p l e R s m args below meth c nL cells slots Q w pc lv (.int y :: .long x :: st) := by
  intro H locs ls h1 h2 h3
  have k := k H locs ls h1 h2 h3
  rw [hd.2] at k
  exact lv_lushr C.1.1 C.1.2.1 hd.1 rfl k
theorem v_lshl (C : vC G B p m meth c cc nL ret s args own) {x : Int64} {y : Int32} (hd : vD cc pc .lshl 1 pc')  (k : V G B p l e R s m args below meth c nL cells slots Q w pc' lv (.long (x <<< (y.toInt64 &&& 63)) :: st)) : V G B p l e R s m args below meth c nL cells slots Q w pc lv (.int y :: .long x :: st) := by
  intro H locs ls h1 h2 h3
  have k := k H locs ls h1 h2 h3
  rw [hd.2] at k
  exact lv_lshl C.1.1 C.1.2.1 hd.1 rfl k
theorem v_lshr (C : vC G B p m meth c cc nL ret s args own) {x : Int64} {y : Int32} (hd : vD cc pc .lshr 1 pc')  (k : V G B p l e R s m args below meth c nL cells slots Q w pc' lv (.long (x >>> (y.toInt64 &&& 63)) :: st)) : V G B p l e R s m args below meth c nL cells slots Q w pc lv (.int y :: .long x :: st) := by
  intro H locs ls h1 h2 h3
  have k := k H locs ls h1 h2 h3
  rw [hd.2] at k
  exact lv_lshr C.1.1 C.1.2.1 hd.1 rfl k
theorem v_idiv (C : vC G B p m meth c cc nL ret s args own) {x y : Int32} (hd : vD cc pc .idiv 1 pc') (hne : ¬ y = 0) (k : V G B p l e R s m args below meth c nL cells slots Q w pc' lv (.int (x / y) :: st)) : V G B p l e R s m args below meth c nL cells slots Q w pc lv (.int y :: .int x :: st) := by
  intro H locs ls h1 h2 h3
  have k := k H locs ls h1 h2 h3
  rw [hd.2] at k
  exact lv_idiv C.1.1 C.1.2.1 hd.1 hne k
theorem v_irem (C : vC G B p m meth c cc nL ret s args own) {x y : Int32} (hd : vD cc pc .irem 1 pc') (hne : ¬ y = 0) (k : V G B p l e R s m args below meth c nL cells slots Q w pc' lv (.int (x - x / y * y) :: st)) : V G B p l e R s m args below meth c nL cells slots Q w pc lv (.int y :: .int x :: st) := by
  intro H locs ls h1 h2 h3
  have k := k H locs ls h1 h2 h3
  rw [hd.2] at k
  exact lv_irem C.1.1 C.1.2.1 hd.1 hne k
theorem v_ineg (C : vC G B p m meth c cc nL ret s args own) {x : Int32} (hd : vD cc pc .ineg 1 pc')  (k : V G B p l e R s m args below meth c nL cells slots Q w pc' lv (.int (-x) :: st)) : V G B p l e R s m args below meth c nL cells slots Q w pc lv (.int x :: st) := by
  intro H locs ls h1 h2 h3
  have k := k H locs ls h1 h2 h3
  rw [hd.2] at k
  exact lv_ineg C.1.1 C.1.2.1 hd.1 k
theorem v_lneg (C : vC G B p m meth c cc nL ret s args own) {x : Int64} (hd : vD cc pc .lneg 1 pc')  (k : V G B p l e R s m args below meth c nL cells slots Q w pc' lv (.long (-x) :: st)) : V G B p l e R s m args below meth c nL cells slots Q w pc lv (.long x :: st) := by
  intro H locs ls h1 h2 h3
  have k := k H locs ls h1 h2 h3
  rw [hd.2] at k
  exact lv_lneg C.1.1 C.1.2.1 hd.1 k
theorem v_i2l (C : vC G B p m meth c cc nL ret s args own) {x : Int32} (hd : vD cc pc .i2l 1 pc')  (k : V G B p l e R s m args below meth c nL cells slots Q w pc' lv (.long x.toInt64 :: st)) : V G B p l e R s m args below meth c nL cells slots Q w pc lv (.int x :: st) := by
  intro H locs ls h1 h2 h3
  have k := k H locs ls h1 h2 h3
  rw [hd.2] at k
  exact lv_i2l C.1.1 C.1.2.1 hd.1 rfl k
theorem v_l2i (C : vC G B p m meth c cc nL ret s args own) {x : Int64} (hd : vD cc pc .l2i 1 pc')  (k : V G B p l e R s m args below meth c nL cells slots Q w pc' lv (.int x.toInt32 :: st)) : V G B p l e R s m args below meth c nL cells slots Q w pc lv (.long x :: st) := by
  intro H locs ls h1 h2 h3
  have k := k H locs ls h1 h2 h3
  rw [hd.2] at k
  exact lv_l2i C.1.1 C.1.2.1 hd.1 rfl k
theorem v_i2b (C : vC G B p m meth c cc nL ret s args own) {x : Int32} (hd : vD cc pc .i2b 1 pc')  (k : V G B p l e R s m args below meth c nL cells slots Q w pc' lv (.int x.toInt8.toInt32 :: st)) : V G B p l e R s m args below meth c nL cells slots Q w pc lv (.int x :: st) := by
  intro H locs ls h1 h2 h3
  have k := k H locs ls h1 h2 h3
  rw [hd.2] at k
  exact lv_i2b C.1.1 C.1.2.1 hd.1 rfl k
theorem v_lcmp (C : vC G B p m meth c cc nL ret s args own) {x y : Int64} (hd : vD cc pc .lcmp 1 pc')  (k : V G B p l e R s m args below meth c nL cells slots Q w pc' lv (.int (lg_cmp x y) :: st)) : V G B p l e R s m args below meth c nL cells slots Q w pc lv (.long y :: .long x :: st) := by
  intro H locs ls h1 h2 h3
  have k := k H locs ls h1 h2 h3
  rw [hd.2] at k
  exact W.lcmp C.1.1 C.1.2.1 hd.1 k
theorem v_dup (C : vC G B p m meth c cc nL ret s args own) {va : Value} (hd : vD cc pc .dup 1 pc') (hva : va.category = 1) (k : V G B p l e R s m args below meth c nL cells slots Q w pc' lv (va :: va :: st)) : V G B p l e R s m args below meth c nL cells slots Q w pc lv (va :: st) := by
  intro H locs ls h1 h2 h3
  have k := k H locs ls h1 h2 h3
  rw [hd.2] at k
  exact lv_dup C.1.1 C.1.2.1 hd.1 hva k
theorem v_pop (C : vC G B p m meth c cc nL ret s args own) {va : Value} (hd : vD cc pc .pop 1 pc') (hva : va.category = 1) (k : V G B p l e R s m args below meth c nL cells slots Q w pc' lv (st)) : V G B p l e R s m args below meth c nL cells slots Q w pc lv (va :: st) := by
  intro H locs ls h1 h2 h3
  have k := k H locs ls h1 h2 h3
  rw [hd.2] at k
  exact lv_pop C.1.1 C.1.2.1 hd.1 hva k
theorem v_dup_x1 (C : vC G B p m meth c cc nL ret s args own) {va vb : Value} (hd : vD cc pc .dup_x1 1 pc') (hva : va.category = 1) (hvb : vb.category = 1) (k : V G B p l e R s m args below meth c nL cells slots Q w pc' lv (va :: vb :: va :: st)) : V G B p l e R s m args below meth c nL cells slots Q w pc lv (va :: vb :: st) := by
  intro H locs ls h1 h2 h3
  have k := k H locs ls h1 h2 h3
  rw [hd.2] at k
  exact lv_dup_x1 C.1.1 C.1.2.1 hd.1 hva hvb k
theorem v_dup_x2 (C : vC G B p m meth c cc nL ret s args own) {va vb vc : Value} (hd : vD cc pc .dup_x2 1 pc') (hva : va.category = 1) (hvb : vb.category = 1) (hvc : vc.category = 1) (k : V G B p l e R s m args below meth c nL cells slots Q w pc' lv (va :: vb :: vc :: va :: st)) : V G B p l e R s m args below meth c nL cells slots Q w pc lv (va :: vb :: vc :: st) := by
  intro H locs ls h1 h2 h3
  have k := k H locs ls h1 h2 h3
  rw [hd.2] at k
  exact lv_dup_x2 C.1.1 C.1.2.1 hd.1 hva hvb hvc k
theorem v_dup2_11 (C : vC G B p m meth c cc nL ret s args own) {va vb : Value} (hd : vD cc pc .dup2 1 pc') (hva : va.category = 1) (hvb : vb.category = 1) (k : V G B p l e R s m args below meth c nL cells slots Q w pc' lv (va :: vb :: va :: vb :: st)) : V G B p l e R s m args below meth c nL cells slots Q w pc lv (va :: vb :: st) := by
  intro H locs ls h1 h2 h3
  have k := k H locs ls h1 h2 h3
  rw [hd.2] at k
  exact lv_dup2_11 C.1.1 C.1.2.1 hd.1 hva hvb k
theorem v_dup2_2 (C : vC G B p m meth c cc nL ret s args own) {va : Value} (hd : vD cc pc .dup2 1 pc') (hva : va.category = 2) (k : V G B p l e R s m args below meth c nL cells slots Q w pc' lv (va :: va :: st)) : V G B p l e R s m args below meth c nL cells slots Q w pc lv (va :: st) := by
  intro H locs ls h1 h2 h3
  have k := k H locs ls h1 h2 h3
  rw [hd.2] at k
  exact lv_dup2_2 C.1.1 C.1.2.1 hd.1 hva k
theorem v_if_eq (C : vC G B p m meth c cc nL ret s args own) {x : Int32} {off : Int} {tgt : Nat} (hd : vD cc pc (.ifCond .eq off) 3 pc') (ht : (pc : Int) + off = (tgt : Int)) (kt : x = 0 → V G B p l e R s m args below meth c nL cells slots Q w tgt lv st) (kf : ¬ x = 0 → V G B p l e R s m args below meth c nL cells slots Q w pc' lv st) : V G B p l e R s m args below meth c nL cells slots Q w pc lv (.int x :: st) := by
  intro H locs ls h1 h2 h3
  rw [hd.2] at kf
  exact lv_if_eq C.1.1 C.1.2.1 hd.1 ht (fun q => kt q H locs ls h1 h2 h3) (fun q => kf q H locs ls h1 h2 h3)
theorem v_icmp_eq (C : vC G B p m meth c cc nL ret s args own) {x y : Int32} {off : Int} {tgt : Nat} (hd : vD cc pc (.if_icmp .eq off) 3 pc') (ht : (pc : Int) + off = (tgt : Int)) (kt : x = y → V G B p l e R s m args below meth c nL cells slots Q w tgt lv st) (kf : ¬ x = y → V G B p l e R s m args below meth c nL cells slots Q w pc' lv st) : V G B p l e R s m args below meth c nL cells slots Q w pc lv (.int y :: .int x :: st) := by
  intro H locs ls h1 h2 h3
  rw [hd.2] at kf
  exact lv_icmp_eq C.1.1 C.1.2.1 hd.1 ht (fun q => kt q H locs ls h1 h2 h3) (fun q => kf q H locs ls h1 h2 h3)
theorem v_if_ne (C : vC G B p m meth c cc nL ret s args own) {x : Int32} {off : Int} {tgt : Nat} (hd : vD cc pc (.ifCond .ne off) 3 pc') (ht : (pc : Int) + off = (tgt : Int)) (kt : ¬ x = 0 → V G B p l e R s m args below meth c nL cells slots Q w tgt lv st) (kf : x = 0 → V G B p l e R s m args below meth c nL cells slots Q w pc' lv st) : V G B p l e R s m args below meth c nL cells slots Q w pc lv (.int x :: st) := by
  intro H locs ls h1 h2 h3
  rw [hd.2] at kf
  exact lv_if_ne C.1.1 C.1.2.1 hd.1 ht (fun q => kt q H locs ls h1 h2 h3) (fun q => kf q H locs ls h1 h2 h3)
theorem v_icmp_ne (C : vC G B p m meth c cc nL ret s args own) {x y : Int32} {off : Int} {tgt : Nat} (hd : vD cc pc (.if_icmp .ne off) 3 pc') (ht : (pc : Int) + off = (tgt : Int)) (kt : ¬ x = y → V G B p l e R s m args below meth c nL cells slots Q w tgt lv st) (kf : x = y → V G B p l e R s m args below meth c nL cells slots Q w pc' lv st) : V G B p l e R s m args below meth c nL cells slots Q w pc lv (.int y :: .int x :: st) := by
  intro H locs ls h1 h2 h3
  rw [hd.2] at kf
  exact lv_icmp_ne C.1.1 C.1.2.1 hd.1 ht (fun q => kt q H locs ls h1 h2 h3) (fun q => kf q H locs ls h1 h2 h3)
theorem v_if_lt (C : vC G B p m meth c cc nL ret s args own) {x : Int32} {off : Int} {tgt : Nat} (hd : vD cc pc (.ifCond .lt off) 3 pc') (ht : (pc : Int) + off = (tgt : Int)) (kt : x < 0 → V G B p l e R s m args below meth c nL cells slots Q w tgt lv st) (kf : ¬ x < 0 → V G B p l e R s m args below meth c nL cells slots Q w pc' lv st) : V G B p l e R s m args below meth c nL cells slots Q w pc lv (.int x :: st) := by
  intro H locs ls h1 h2 h3
  rw [hd.2] at kf
  exact lv_if_lt C.1.1 C.1.2.1 hd.1 ht (fun q => kt q H locs ls h1 h2 h3) (fun q => kf q H locs ls h1 h2 h3)
theorem v_icmp_lt (C : vC G B p m meth c cc nL ret s args own) {x y : Int32} {off : Int} {tgt : Nat} (hd : vD cc pc (.if_icmp .lt off) 3 pc') (ht : (pc : Int) + off = (tgt : Int)) (kt : x < y → V G B p l e R s m args below meth c nL cells slots Q w tgt lv st) (kf : ¬ x < y → V G B p l e R s m args below meth c nL cells slots Q w pc' lv st) : V G B p l e R s m args below meth c nL cells slots Q w pc lv (.int y :: .int x :: st) := by
  intro H locs ls h1 h2 h3
  rw [hd.2] at kf
  exact lv_icmp_lt C.1.1 C.1.2.1 hd.1 ht (fun q => kt q H locs ls h1 h2 h3) (fun q => kf q H locs ls h1 h2 h3)
theorem v_if_ge (C : vC G B p m meth c cc nL ret s args own) {x : Int32} {off : Int} {tgt : Nat} (hd : vD cc pc (.ifCond .ge off) 3 pc') (ht : (pc : Int) + off = (tgt : Int)) (kt : 0 ≤ x → V G B p l e R s m args below meth c nL cells slots Q w tgt lv st) (kf : ¬ 0 ≤ x → V G B p l e R s m args below meth c nL cells slots Q w pc' lv st) : V G B p l e R s m args below meth c nL cells slots Q w pc lv (.int x :: st) := by
  intro H locs ls h1 h2 h3
  rw [hd.2] at kf
  exact lv_if_ge C.1.1 C.1.2.1 hd.1 ht (fun q => kt q H locs ls h1 h2 h3) (fun q => kf q H locs ls h1 h2 h3)
theorem v_icmp_ge (C : vC G B p m meth c cc nL ret s args own) {x y : Int32} {off : Int} {tgt : Nat} (hd : vD cc pc (.if_icmp .ge off) 3 pc') (ht : (pc : Int) + off = (tgt : Int)) (kt : y ≤ x → V G B p l e R s m args below meth c nL cells slots Q w tgt lv st) (kf : ¬ y ≤ x → V G B p l e R s m args below meth c nL cells slots Q w pc' lv st) : V G B p l e R s m args below meth c nL cells slots Q w pc lv (.int y :: .int x :: st) := by
  intro H locs ls h1 h2 h3
  rw [hd.2] at kf
  exact lv_icmp_ge C.1.1 C.1.2.1 hd.1 ht (fun q => kt q H locs ls h1 h2 h3) (fun q => kf q H locs ls h1 h2 h3)
theorem v_if_gt (C : vC G B p m meth c cc nL ret s args own) {x : Int32} {off : Int} {tgt : Nat} (hd : vD cc pc (.ifCond .gt off) 3 pc') (ht : (pc : Int) + off = (tgt : Int)) (kt : 0 < x → V G B p l e R s m args below meth c nL cells slots Q w tgt lv st) (kf : ¬ 0 < x → V G B p l e R s m args below meth c nL cells slots Q w pc' lv st) : V G B p l e R s m args below meth c nL cells slots Q w pc lv (.int x :: st) := by
  intro H locs ls h1 h2 h3
  rw [hd.2] at kf
  exact lv_if_gt C.1.1 C.1.2.1 hd.1 ht (fun q => kt q H locs ls h1 h2 h3) (fun q => kf q H locs ls h1 h2 h3)
theorem v_icmp_gt (C : vC G B p m meth c cc nL ret s args own) {x y : Int32} {off : Int} {tgt : Nat} (hd : vD cc pc (.if_icmp .gt off) 3 pc') (ht : (pc : Int) + off = (tgt : Int)) (kt : y < x → V G B p l e R s m args below meth c nL cells slots Q w tgt lv st) (kf : ¬ y < x → V G B p l e R s m args below meth c nL cells slots Q w pc' lv st) : V G B p l e R s m args below meth c nL cells slots Q w pc lv (.int y :: .int x :: st) := by
  intro H locs ls h1 h2 h3
  rw [hd.2] at kf
  exact lv_icmp_gt C.1.1 C.1.2.1 hd.1 ht (fun q => kt q H locs ls h1 h2 h3) (fun q => kf q H locs ls h1 h2 h3)
theorem v_if_le (C : vC G B p m meth c cc nL ret s args own) {x : Int32} {off : Int} {tgt : Nat} (hd : vD cc pc (.ifCond .le off) 3 pc') (ht : (pc : Int) + off = (tgt : Int)) (kt : x ≤ 0 → V G B p l e R s m args below meth c nL cells slots Q w tgt lv st) (kf : ¬ x ≤ 0 → V G B p l e R s m args below meth c nL cells slots Q w pc' lv st) : V G B p l e R s m args below meth c nL cells slots Q w pc lv (.int x :: st) := by
  intro H locs ls h1 h2 h3
  rw [hd.2] at kf
  exact lv_if_le C.1.1 C.1.2.1 hd.1 ht (fun q => kt q H locs ls h1 h2 h3) (fun q => kf q H locs ls h1 h2 h3)
theorem v_icmp_le (C : vC G B p m meth c cc nL ret s args own) {x y : Int32} {off : Int} {tgt : Nat} (hd : vD cc pc (.if_icmp .le off) 3 pc') (ht : (pc : Int) + off = (tgt : Int)) (kt : x ≤ y → V G B p l e R s m args below meth c nL cells slots Q w tgt lv st) (kf : ¬ x ≤ y → V G B p l e R s m args below meth c nL cells slots Q w pc' lv st) : V G B p l e R s m args below meth c nL cells slots Q w pc lv (.int y :: .int x :: st) := by
  intro H locs ls h1 h2 h3
  rw [hd.2] at kf
  exact lv_icmp_le C.1.1 C.1.2.1 hd.1 ht (fun q => kt q H locs ls h1 h2 h3) (fun q => kf q H locs ls h1 h2 h3)
theorem v_goto (C : vC G B p m meth c cc nL ret s args own) {off : Int} {tgt : Nat} (hd : vD cc pc (.goto off) 3 pc') (ht : (pc : Int) + off = (tgt : Int)) (k : V G B p l e R s m args below meth c nL cells slots Q w tgt lv st) : V G B p l e R s m args below meth c nL cells slots Q w pc lv st := fun H locs ls h1 h2 h3 => lv_goto C.1.1 C.1.2.1 hd.1 ht (k H locs ls h1 h2 h3)
end VRows
