section FWR
variable {p : Program} {l : Launch} {e : Env} {R : Room} {s : State} {m : MethodId} {args : Array Value} {below : List Frame} {meth : Method} {c : Code} {cells slots : Nat} {Q : State → Prop}
variable {cc : ByteArray} {nL : Nat} {Ts : List Cond} {own : String} {D : va_G} {aC : Nat → ClassId} {A : Nat → Prop} {g : Nat → Nat} {n : Nat} {K : Nat → Nat × Nat} {I : Nat → Nat → Int32} {pc : Nat} {lv lv' : List (Nat × Value)} {st : List Value} {Wd : Heap → Prop} {A' : Nat → Prop}

theorem fx_iconst (C : CallFix p m c cc nL s args Ts own) {pc' : Nat} {a : Int} {v : Int32} (hdg : decode cc pc = .ok (.iconst a, 1)) (hv : Int32.ofInt a = v) (hp : pc + 1 = pc')
    (kk : fw_H p l e R s m args below meth c cells slots Q nL A Wd (pc') lv (.int v :: st)) : fw_H p l e R s m args below meth c cells slots Q nL A Wd (pc) lv (st) := by
  subst hp
  exact fun ls H locs hl hW hS => lv_iconst C.1 C.2.1 hdg hv (kk ls H locs hl hW hS)
theorem fx_bipush (C : CallFix p m c cc nL s args Ts own) {pc' : Nat} {a : Int} {v : Int32} (hdg : decode cc pc = .ok (.bipush a, 2)) (hv : (Int8.ofInt a).toInt32 = v) (hp : pc + 2 = pc')
    (kk : fw_H p l e R s m args below meth c cells slots Q nL A Wd (pc') lv (.int v :: st)) : fw_H p l e R s m args below meth c cells slots Q nL A Wd (pc) lv (st) := by
  subst hp
  exact fun ls H locs hl hW hS => lv_bipush C.1 C.2.1 hdg hv (kk ls H locs hl hW hS)
theorem fx_sipush (C : CallFix p m c cc nL s args Ts own) {pc' : Nat} {a : Int} {v : Int32} (hdg : decode cc pc = .ok (.sipush a, 3)) (hv : (Int16.ofInt a).toInt32 = v) (hp : pc + 3 = pc')
    (kk : fw_H p l e R s m args below meth c cells slots Q nL A Wd (pc') lv (.int v :: st)) : fw_H p l e R s m args below meth c cells slots Q nL A Wd (pc) lv (st) := by
  subst hp
  exact fun ls H locs hl hW hS => lv_sipush C.1 C.2.1 hdg hv (kk ls H locs hl hW hS)
theorem fx_iload_n (C : CallFix p m c cc nL s args Ts own) {pc' : Nat} {k : Fin 4} {i : Nat} {x : Int32} (hdg : decode cc pc = .ok (.iload_n k, 1)) (hi : (k : Nat) = i) (j : Nat) (hj : lv[j]? = some (i, .int x)) (hp : pc + 1 = pc')
    (kk : fw_H p l e R s m args below meth c cells slots Q nL A Wd (pc') lv (.int x :: st)) : fw_H p l e R s m args below meth c cells slots Q nL A Wd (pc) lv (st) := by
  subst hp
  exact fun ls H locs hl hW hS => lv_iload_n C.1 C.2.1 hdg hi (lv_at hl j hj) (kk ls H locs hl hW hS)
theorem fx_iload (C : CallFix p m c cc nL s args Ts own) {pc' : Nat} {i : Nat} {x : Int32} (hdg : decode cc pc = .ok (.iload i, 2)) (j : Nat) (hj : lv[j]? = some (i, .int x)) (hp : pc + 2 = pc')
    (kk : fw_H p l e R s m args below meth c cells slots Q nL A Wd (pc') lv (.int x :: st)) : fw_H p l e R s m args below meth c cells slots Q nL A Wd (pc) lv (st) := by
  subst hp
  exact fun ls H locs hl hW hS => lv_iload C.1 C.2.1 hdg (lv_at hl j hj) (kk ls H locs hl hW hS)
theorem fx_istore_n (C : CallFix p m c cc nL s args Ts own) {pc' : Nat} {k : Fin 4} {i : Nat} {x : Int32} (hdg : decode cc pc = .ok (.istore_n k, 1)) (hi : (k : Nat) = i) (hn : i < nL) (hv : (i, Value.int x) :: lv.filter (fun q => !(q.1 == i) && !(q.1 + 1 == i && q.2.category == 2)) = lv') (hp : pc + 1 = pc')
    (kk : fw_H p l e R s m args below meth c cells slots Q nL A Wd (pc') lv' (st)) : fw_H p l e R s m args below meth c cells slots Q nL A Wd (pc) lv (.int x :: st) := by
  subst hp
  exact fun ls H locs hl hW hS => lv_istore_n C.1 C.2.1 hdg hi hl hn hv (fun ls' hl' => kk ls' H locs hl' hW hS)
theorem fx_istore (C : CallFix p m c cc nL s args Ts own) {pc' : Nat} {i : Nat} {x : Int32} (hdg : decode cc pc = .ok (.istore i, 2)) (hn : i < nL) (hv : (i, Value.int x) :: lv.filter (fun q => !(q.1 == i) && !(q.1 + 1 == i && q.2.category == 2)) = lv') (hp : pc + 2 = pc')
    (kk : fw_H p l e R s m args below meth c cells slots Q nL A Wd (pc') lv' (st)) : fw_H p l e R s m args below meth c cells slots Q nL A Wd (pc) lv (.int x :: st) := by
  subst hp
  exact fun ls H locs hl hW hS => lv_istore C.1 C.2.1 hdg hl hn hv (fun ls' hl' => kk ls' H locs hl' hW hS)
theorem fx_aload_n (C : CallFix p m c cc nL s args Ts own) {pc' : Nat} {k : Fin 4} {i : Nat} {x : Nat} (hdg : decode cc pc = .ok (.aload_n k, 1)) (hi : (k : Nat) = i) (j : Nat) (hj : lv[j]? = some (i, .ref x)) (hp : pc + 1 = pc')
    (kk : fw_H p l e R s m args below meth c cells slots Q nL A Wd (pc') lv (.ref x :: st)) : fw_H p l e R s m args below meth c cells slots Q nL A Wd (pc) lv (st) := by
  subst hp
  exact fun ls H locs hl hW hS => lv_aload_n C.1 C.2.1 hdg hi (lv_at hl j hj) (kk ls H locs hl hW hS)
theorem fx_aload (C : CallFix p m c cc nL s args Ts own) {pc' : Nat} {i : Nat} {x : Nat} (hdg : decode cc pc = .ok (.aload i, 2)) (j : Nat) (hj : lv[j]? = some (i, .ref x)) (hp : pc + 2 = pc')
    (kk : fw_H p l e R s m args below meth c cells slots Q nL A Wd (pc') lv (.ref x :: st)) : fw_H p l e R s m args below meth c cells slots Q nL A Wd (pc) lv (st) := by
  subst hp
  exact fun ls H locs hl hW hS => lv_aload C.1 C.2.1 hdg (lv_at hl j hj) (kk ls H locs hl hW hS)
theorem fx_astore_n (C : CallFix p m c cc nL s args Ts own) {pc' : Nat} {k : Fin 4} {i : Nat} {x : Nat} (hdg : decode cc pc = .ok (.astore_n k, 1)) (hi : (k : Nat) = i) (hn : i < nL) (hv : (i, Value.ref x) :: lv.filter (fun q => !(q.1 == i) && !(q.1 + 1 == i && q.2.category == 2)) = lv') (hp : pc + 1 = pc')
    (kk : fw_H p l e R s m args below meth c cells slots Q nL A Wd (pc') lv' (st)) : fw_H p l e R s m args below meth c cells slots Q nL A Wd (pc) lv (.ref x :: st) := by
  subst hp
  exact fun ls H locs hl hW hS => lv_astore_n C.1 C.2.1 hdg hi hl hn hv (fun ls' hl' => kk ls' H locs hl' hW hS)
theorem fx_astore (C : CallFix p m c cc nL s args Ts own) {pc' : Nat} {i : Nat} {x : Nat} (hdg : decode cc pc = .ok (.astore i, 2)) (hn : i < nL) (hv : (i, Value.ref x) :: lv.filter (fun q => !(q.1 == i) && !(q.1 + 1 == i && q.2.category == 2)) = lv') (hp : pc + 2 = pc')
    (kk : fw_H p l e R s m args below meth c cells slots Q nL A Wd (pc') lv' (st)) : fw_H p l e R s m args below meth c cells slots Q nL A Wd (pc) lv (.ref x :: st) := by
  subst hp
  exact fun ls H locs hl hW hS => lv_astore C.1 C.2.1 hdg hl hn hv (fun ls' hl' => kk ls' H locs hl' hW hS)
theorem fx_iinc (C : CallFix p m c cc nL s args Ts own) {pc' : Nat} {i : Nat} {a : Int} {x v : Int32} (hdg : decode cc pc = .ok (.iinc i a, 3)) (j : Nat) (hj : lv[j]? = some (i, .int x)) (hx : x + Int32.ofInt a = v) (hn : i < nL) (hv : (i, Value.int v) :: lv.filter (fun q => !(q.1 == i) && !(q.1 + 1 == i && q.2.category == 2)) = lv') (hp : pc + 3 = pc')
    (kk : fw_H p l e R s m args below meth c cells slots Q nL A Wd (pc') lv' (st)) : fw_H p l e R s m args below meth c cells slots Q nL A Wd (pc) lv (st) := by
  subst hp
  exact fun ls H locs hl hW hS => lv_iinc C.1 C.2.1 hdg hl hj hx hn hv (fun ls' hl' => kk ls' H locs hl' hW hS)
theorem fx_iadd (C : CallFix p m c cc nL s args Ts own) {pc' : Nat} {x y : Int32} (hdg : decode cc pc = .ok (.iadd, 1)) (hp : pc + 1 = pc')
    (kk : fw_H p l e R s m args below meth c cells slots Q nL A Wd (pc') lv (.int (x + y) :: st)) : fw_H p l e R s m args below meth c cells slots Q nL A Wd (pc) lv (.int y :: .int x :: st) := by
  subst hp
  exact fun ls H locs hl hW hS => lv_iadd C.1 C.2.1 hdg (kk ls H locs hl hW hS)
theorem fx_isub (C : CallFix p m c cc nL s args Ts own) {pc' : Nat} {x y : Int32} (hdg : decode cc pc = .ok (.isub, 1)) (hp : pc + 1 = pc')
    (kk : fw_H p l e R s m args below meth c cells slots Q nL A Wd (pc') lv (.int (x - y) :: st)) : fw_H p l e R s m args below meth c cells slots Q nL A Wd (pc) lv (.int y :: .int x :: st) := by
  subst hp
  exact fun ls H locs hl hW hS => lv_isub C.1 C.2.1 hdg (kk ls H locs hl hW hS)
theorem fx_imul (C : CallFix p m c cc nL s args Ts own) {pc' : Nat} {x y : Int32} (hdg : decode cc pc = .ok (.imul, 1)) (hp : pc + 1 = pc')
    (kk : fw_H p l e R s m args below meth c cells slots Q nL A Wd (pc') lv (.int (x * y) :: st)) : fw_H p l e R s m args below meth c cells slots Q nL A Wd (pc) lv (.int y :: .int x :: st) := by
  subst hp
  exact fun ls H locs hl hW hS => lv_imul C.1 C.2.1 hdg (kk ls H locs hl hW hS)
theorem fx_iand (C : CallFix p m c cc nL s args Ts own) {pc' : Nat} {x y : Int32} (hdg : decode cc pc = .ok (.iand, 1)) (hp : pc + 1 = pc')
    (kk : fw_H p l e R s m args below meth c cells slots Q nL A Wd (pc') lv (.int (x &&& y) :: st)) : fw_H p l e R s m args below meth c cells slots Q nL A Wd (pc) lv (.int y :: .int x :: st) := by
  subst hp
  exact fun ls H locs hl hW hS => lv_iand C.1 C.2.1 hdg (kk ls H locs hl hW hS)
theorem fx_ior (C : CallFix p m c cc nL s args Ts own) {pc' : Nat} {x y : Int32} (hdg : decode cc pc = .ok (.ior, 1)) (hp : pc + 1 = pc')
    (kk : fw_H p l e R s m args below meth c cells slots Q nL A Wd (pc') lv (.int (x ||| y) :: st)) : fw_H p l e R s m args below meth c cells slots Q nL A Wd (pc) lv (.int y :: .int x :: st) := by
  subst hp
  exact fun ls H locs hl hW hS => lv_ior C.1 C.2.1 hdg (kk ls H locs hl hW hS)
theorem fx_ishl (C : CallFix p m c cc nL s args Ts own) {pc' : Nat} {x y : Int32} (hdg : decode cc pc = .ok (.ishl, 1)) (hp : pc + 1 = pc')
    (kk : fw_H p l e R s m args below meth c cells slots Q nL A Wd (pc') lv (.int (x <<< (y &&& 31)) :: st)) : fw_H p l e R s m args below meth c cells slots Q nL A Wd (pc) lv (.int y :: .int x :: st) := by
  subst hp
  exact fun ls H locs hl hW hS => lv_ishl C.1 C.2.1 hdg (kk ls H locs hl hW hS)
theorem fx_irem (C : CallFix p m c cc nL s args Ts own) {pc' : Nat} {x y : Int32} (hdg : decode cc pc = .ok (.irem, 1)) (hne : ¬ y = 0) (hp : pc + 1 = pc')
    (kk : fw_H p l e R s m args below meth c cells slots Q nL A Wd (pc') lv (.int (x - x / y * y) :: st)) : fw_H p l e R s m args below meth c cells slots Q nL A Wd (pc) lv (.int y :: .int x :: st) := by
  subst hp
  exact fun ls H locs hl hW hS => lv_irem C.1 C.2.1 hdg hne (kk ls H locs hl hW hS)
theorem fx_iushr (C : CallFix p m c cc nL s args Ts own) {pc' : Nat} {x y : Int32} (hdg : decode cc pc = .ok (.iushr, 1)) (hp : pc + 1 = pc')
    (kk : fw_H p l e R s m args below meth c cells slots Q nL A Wd (pc') lv (.int (x.toUInt32 >>> (y.toUInt32 &&& Int32.toUInt32 31)).toInt32 :: st)) : fw_H p l e R s m args below meth c cells slots Q nL A Wd (pc) lv (.int y :: .int x :: st) := by
  subst hp
  exact fun ls H locs hl hW hS => lv_iushr C.1 C.2.1 hdg rfl (kk ls H locs hl hW hS)
theorem fx_ldc_w (C : CallFix p m c cc nL s args Ts own) {pc' : Nat} {index : Nat} {v : Int32} (hc : (Jvm.Cond.constant own index v).before args s = true) (hdg : decode cc pc = .ok (.ldc_w index, 3)) (hp : pc + 3 = pc')
    (kk : fw_H p l e R s m args below meth c cells slots Q nL A Wd (pc') lv (.int v :: st)) : fw_H p l e R s m args below meth c cells slots Q nL A Wd (pc) lv (st) := by
  subst hp
  exact fun ls H locs hl hW hS => lv_ldcw C.1 C.2.1 C.2.2.2.1 hc hdg (kk ls H locs hl hW hS)
theorem fx_mmax (C : CallFix p m c cc nL s args Ts own) {pc' : Nat} {x y : Int32} {index : Nat} (hlink : (Cond.methodLink own index Lib.Math.max.name).before args s = true) (hstat : (Cond.static Lib.Math.max.name).before args s = true) (hini : (Cond.initialized "java/lang/Math").before args s = true) (hcode : (Cond.code Lib.Math.max.name Lib.Math.max.code 2 (some .int)).before args s = true) (hfr : 1 ≤ R.frames) (hlo : (st.map fun v => v.category).sum + 13 ≤ R.locals) (hcs : cells ≤ R.cells ∧ slots ≤ R.slots) (hdg : decode cc pc = .ok (.invokestatic index, 3)) (hp : pc + 3 = pc')
    (kk : fw_H p l e R s m args below meth c cells slots Q nL A Wd (pc') lv (.int (if x < y then y else x) :: st)) : fw_H p l e R s m args below meth c cells slots Q nL A Wd (pc) lv (.int y :: .int x :: st) := by
  subst hp
  exact fun ls H locs hl hW hS => va_mmax C.1 C.2.1 (C.2.2.1.trans hl.1.symm) C.2.2.2.1 hlink hstat hini hcode hfr hlo hcs.1 hcs.2 hdg (kk ls H locs hl hW hS)
theorem fx_mmin (C : CallFix p m c cc nL s args Ts own) {pc' : Nat} {x y : Int32} {index : Nat} (hlink : (Cond.methodLink own index Lib.Math.min.name).before args s = true) (hstat : (Cond.static Lib.Math.min.name).before args s = true) (hini : (Cond.initialized "java/lang/Math").before args s = true) (hcode : (Cond.code Lib.Math.min.name Lib.Math.min.code 2 (some .int)).before args s = true) (hfr : 1 ≤ R.frames) (hlo : (st.map fun v => v.category).sum + 13 ≤ R.locals) (hcs : cells ≤ R.cells ∧ slots ≤ R.slots) (hdg : decode cc pc = .ok (.invokestatic index, 3)) (hp : pc + 3 = pc')
    (kk : fw_H p l e R s m args below meth c cells slots Q nL A Wd (pc') lv (.int (if y < x then y else x) :: st)) : fw_H p l e R s m args below meth c cells slots Q nL A Wd (pc) lv (.int y :: .int x :: st) := by
  subst hp
  exact fun ls H locs hl hW hS => va_mmin C.1 C.2.1 (C.2.2.1.trans hl.1.symm) C.2.2.2.1 hlink hstat hini hcode hfr hlo hcs.1 hcs.2 hdg (kk ls H locs hl hW hS)
theorem fx_i2l (C : CallFix p m c cc nL s args Ts own) {pc' : Nat} {x : Int32} (hdg : decode cc pc = .ok (.i2l, 1)) (hp : pc + 1 = pc')
    (kk : fw_H p l e R s m args below meth c cells slots Q nL A Wd (pc') lv (.long x.toInt64 :: st)) : fw_H p l e R s m args below meth c cells slots Q nL A Wd (pc) lv (.int x :: st) := by
  subst hp
  exact fun ls H locs hl hW hS => lv_i2l C.1 C.2.1 hdg rfl (kk ls H locs hl hW hS)
theorem fx_dup (C : CallFix p m c cc nL s args Ts own) {pc' : Nat} {v : Value} (hdg : decode cc pc = .ok (.dup, 1)) (hv : v.category = 1) (hp : pc + 1 = pc')
    (kk : fw_H p l e R s m args below meth c cells slots Q nL A Wd (pc') lv (v :: v :: st)) : fw_H p l e R s m args below meth c cells slots Q nL A Wd (pc) lv (v :: st) := by
  subst hp
  exact fun ls H locs hl hW hS => lv_dup C.1 C.2.1 hdg hv (kk ls H locs hl hW hS)
theorem fx_pop (C : CallFix p m c cc nL s args Ts own) {pc' : Nat} {v : Value} (hdg : decode cc pc = .ok (.pop, 1)) (hv : v.category = 1) (hp : pc + 1 = pc')
    (kk : fw_H p l e R s m args below meth c cells slots Q nL A Wd (pc') lv (st)) : fw_H p l e R s m args below meth c cells slots Q nL A Wd (pc) lv (v :: st) := by
  subst hp
  exact fun ls H locs hl hW hS => lv_pop C.1 C.2.1 hdg hv (kk ls H locs hl hW hS)
theorem fx_dup2 (C : CallFix p m c cc nL s args Ts own) {pc' : Nat} {v w : Value} (hdg : decode cc pc = .ok (.dup2, 1)) (hv : v.category = 1) (hw : w.category = 1) (hp : pc + 1 = pc')
    (kk : fw_H p l e R s m args below meth c cells slots Q nL A Wd (pc') lv (v :: w :: v :: w :: st)) : fw_H p l e R s m args below meth c cells slots Q nL A Wd (pc) lv (v :: w :: st) := by
  subst hp
  exact fun ls H locs hl hW hS => lv_dup2_11 C.1 C.2.1 hdg hv hw (kk ls H locs hl hW hS)
theorem fx_goto (C : CallFix p m c cc nL s args Ts own) {off : Int} {tgt : Nat} (hdg : decode cc pc = .ok (.goto off, 3)) (ht : (pc : Int) + off = (tgt : Int))
    (kk : fw_H p l e R s m args below meth c cells slots Q nL A Wd (tgt) lv (st)) : fw_H p l e R s m args below meth c cells slots Q nL A Wd (pc) lv (st) :=
  fun ls H locs hl hW hS => lv_goto C.1 C.2.1 hdg ht (kk ls H locs hl hW hS)
theorem fx_if_eq (C : CallFix p m c cc nL s args Ts own) {x : Int32} {off : Int} {tgt pc' : Nat} (hdg : decode cc pc = .ok (.ifCond .eq off, 3)) (ht : (pc : Int) + off = (tgt : Int)) (hp : pc + 3 = pc')
    (kt : x = 0 → fw_H p l e R s m args below meth c cells slots Q nL A Wd (tgt) lv (st)) (kf : ¬ x = 0 → fw_H p l e R s m args below meth c cells slots Q nL A Wd (pc') lv (st)) : fw_H p l e R s m args below meth c cells slots Q nL A Wd (pc) lv (.int x :: st) := by
  subst hp
  exact fun ls H locs hl hW hS => lv_if_eq C.1 C.2.1 hdg ht (fun q => kt q ls H locs hl hW hS) (fun q => kf q ls H locs hl hW hS)
theorem fx_icmp_eq (C : CallFix p m c cc nL s args Ts own) {x y : Int32} {off : Int} {tgt pc' : Nat} (hdg : decode cc pc = .ok (.if_icmp .eq off, 3)) (ht : (pc : Int) + off = (tgt : Int)) (hp : pc + 3 = pc')
    (kt : x = y → fw_H p l e R s m args below meth c cells slots Q nL A Wd (tgt) lv (st)) (kf : ¬ x = y → fw_H p l e R s m args below meth c cells slots Q nL A Wd (pc') lv (st)) : fw_H p l e R s m args below meth c cells slots Q nL A Wd (pc) lv (.int y :: .int x :: st) := by
  subst hp
  exact fun ls H locs hl hW hS => lv_icmp_eq C.1 C.2.1 hdg ht (fun q => kt q ls H locs hl hW hS) (fun q => kf q ls H locs hl hW hS)
theorem fx_if_ne (C : CallFix p m c cc nL s args Ts own) {x : Int32} {off : Int} {tgt pc' : Nat} (hdg : decode cc pc = .ok (.ifCond .ne off, 3)) (ht : (pc : Int) + off = (tgt : Int)) (hp : pc + 3 = pc')
    (kt : ¬ x = 0 → fw_H p l e R s m args below meth c cells slots Q nL A Wd (tgt) lv (st)) (kf : x = 0 → fw_H p l e R s m args below meth c cells slots Q nL A Wd (pc') lv (st)) : fw_H p l e R s m args below meth c cells slots Q nL A Wd (pc) lv (.int x :: st) := by
  subst hp
  exact fun ls H locs hl hW hS => lv_if_ne C.1 C.2.1 hdg ht (fun q => kt q ls H locs hl hW hS) (fun q => kf q ls H locs hl hW hS)
theorem fx_icmp_ne (C : CallFix p m c cc nL s args Ts own) {x y : Int32} {off : Int} {tgt pc' : Nat} (hdg : decode cc pc = .ok (.if_icmp .ne off, 3)) (ht : (pc : Int) + off = (tgt : Int)) (hp : pc + 3 = pc')
    (kt : ¬ x = y → fw_H p l e R s m args below meth c cells slots Q nL A Wd (tgt) lv (st)) (kf : x = y → fw_H p l e R s m args below meth c cells slots Q nL A Wd (pc') lv (st)) : fw_H p l e R s m args below meth c cells slots Q nL A Wd (pc) lv (.int y :: .int x :: st) := by
  subst hp
  exact fun ls H locs hl hW hS => lv_icmp_ne C.1 C.2.1 hdg ht (fun q => kt q ls H locs hl hW hS) (fun q => kf q ls H locs hl hW hS)
theorem fx_if_lt (C : CallFix p m c cc nL s args Ts own) {x : Int32} {off : Int} {tgt pc' : Nat} (hdg : decode cc pc = .ok (.ifCond .lt off, 3)) (ht : (pc : Int) + off = (tgt : Int)) (hp : pc + 3 = pc')
    (kt : x < 0 → fw_H p l e R s m args below meth c cells slots Q nL A Wd (tgt) lv (st)) (kf : ¬ x < 0 → fw_H p l e R s m args below meth c cells slots Q nL A Wd (pc') lv (st)) : fw_H p l e R s m args below meth c cells slots Q nL A Wd (pc) lv (.int x :: st) := by
  subst hp
  exact fun ls H locs hl hW hS => lv_if_lt C.1 C.2.1 hdg ht (fun q => kt q ls H locs hl hW hS) (fun q => kf q ls H locs hl hW hS)
theorem fx_icmp_lt (C : CallFix p m c cc nL s args Ts own) {x y : Int32} {off : Int} {tgt pc' : Nat} (hdg : decode cc pc = .ok (.if_icmp .lt off, 3)) (ht : (pc : Int) + off = (tgt : Int)) (hp : pc + 3 = pc')
    (kt : x < y → fw_H p l e R s m args below meth c cells slots Q nL A Wd (tgt) lv (st)) (kf : ¬ x < y → fw_H p l e R s m args below meth c cells slots Q nL A Wd (pc') lv (st)) : fw_H p l e R s m args below meth c cells slots Q nL A Wd (pc) lv (.int y :: .int x :: st) := by
  subst hp
  exact fun ls H locs hl hW hS => lv_icmp_lt C.1 C.2.1 hdg ht (fun q => kt q ls H locs hl hW hS) (fun q => kf q ls H locs hl hW hS)
theorem fx_if_ge (C : CallFix p m c cc nL s args Ts own) {x : Int32} {off : Int} {tgt pc' : Nat} (hdg : decode cc pc = .ok (.ifCond .ge off, 3)) (ht : (pc : Int) + off = (tgt : Int)) (hp : pc + 3 = pc')
    (kt : 0 ≤ x → fw_H p l e R s m args below meth c cells slots Q nL A Wd (tgt) lv (st)) (kf : ¬ 0 ≤ x → fw_H p l e R s m args below meth c cells slots Q nL A Wd (pc') lv (st)) : fw_H p l e R s m args below meth c cells slots Q nL A Wd (pc) lv (.int x :: st) := by
  subst hp
  exact fun ls H locs hl hW hS => lv_if_ge C.1 C.2.1 hdg ht (fun q => kt q ls H locs hl hW hS) (fun q => kf q ls H locs hl hW hS)
theorem fx_icmp_ge (C : CallFix p m c cc nL s args Ts own) {x y : Int32} {off : Int} {tgt pc' : Nat} (hdg : decode cc pc = .ok (.if_icmp .ge off, 3)) (ht : (pc : Int) + off = (tgt : Int)) (hp : pc + 3 = pc')
    (kt : y ≤ x → fw_H p l e R s m args below meth c cells slots Q nL A Wd (tgt) lv (st)) (kf : ¬ y ≤ x → fw_H p l e R s m args below meth c cells slots Q nL A Wd (pc') lv (st)) : fw_H p l e R s m args below meth c cells slots Q nL A Wd (pc) lv (.int y :: .int x :: st) := by
  subst hp
  exact fun ls H locs hl hW hS => lv_icmp_ge C.1 C.2.1 hdg ht (fun q => kt q ls H locs hl hW hS) (fun q => kf q ls H locs hl hW hS)
theorem fx_if_gt (C : CallFix p m c cc nL s args Ts own) {x : Int32} {off : Int} {tgt pc' : Nat} (hdg : decode cc pc = .ok (.ifCond .gt off, 3)) (ht : (pc : Int) + off = (tgt : Int)) (hp : pc + 3 = pc')
    (kt : 0 < x → fw_H p l e R s m args below meth c cells slots Q nL A Wd (tgt) lv (st)) (kf : ¬ 0 < x → fw_H p l e R s m args below meth c cells slots Q nL A Wd (pc') lv (st)) : fw_H p l e R s m args below meth c cells slots Q nL A Wd (pc) lv (.int x :: st) := by
  subst hp
  exact fun ls H locs hl hW hS => lv_if_gt C.1 C.2.1 hdg ht (fun q => kt q ls H locs hl hW hS) (fun q => kf q ls H locs hl hW hS)
theorem fx_icmp_gt (C : CallFix p m c cc nL s args Ts own) {x y : Int32} {off : Int} {tgt pc' : Nat} (hdg : decode cc pc = .ok (.if_icmp .gt off, 3)) (ht : (pc : Int) + off = (tgt : Int)) (hp : pc + 3 = pc')
    (kt : y < x → fw_H p l e R s m args below meth c cells slots Q nL A Wd (tgt) lv (st)) (kf : ¬ y < x → fw_H p l e R s m args below meth c cells slots Q nL A Wd (pc') lv (st)) : fw_H p l e R s m args below meth c cells slots Q nL A Wd (pc) lv (.int y :: .int x :: st) := by
  subst hp
  exact fun ls H locs hl hW hS => lv_icmp_gt C.1 C.2.1 hdg ht (fun q => kt q ls H locs hl hW hS) (fun q => kf q ls H locs hl hW hS)
theorem fx_if_le (C : CallFix p m c cc nL s args Ts own) {x : Int32} {off : Int} {tgt pc' : Nat} (hdg : decode cc pc = .ok (.ifCond .le off, 3)) (ht : (pc : Int) + off = (tgt : Int)) (hp : pc + 3 = pc')
    (kt : x ≤ 0 → fw_H p l e R s m args below meth c cells slots Q nL A Wd (tgt) lv (st)) (kf : ¬ x ≤ 0 → fw_H p l e R s m args below meth c cells slots Q nL A Wd (pc') lv (st)) : fw_H p l e R s m args below meth c cells slots Q nL A Wd (pc) lv (.int x :: st) := by
  subst hp
  exact fun ls H locs hl hW hS => lv_if_le C.1 C.2.1 hdg ht (fun q => kt q ls H locs hl hW hS) (fun q => kf q ls H locs hl hW hS)
theorem fx_icmp_le (C : CallFix p m c cc nL s args Ts own) {x y : Int32} {off : Int} {tgt pc' : Nat} (hdg : decode cc pc = .ok (.if_icmp .le off, 3)) (ht : (pc : Int) + off = (tgt : Int)) (hp : pc + 3 = pc')
    (kt : x ≤ y → fw_H p l e R s m args below meth c cells slots Q nL A Wd (tgt) lv (st)) (kf : ¬ x ≤ y → fw_H p l e R s m args below meth c cells slots Q nL A Wd (pc') lv (st)) : fw_H p l e R s m args below meth c cells slots Q nL A Wd (pc) lv (.int y :: .int x :: st) := by
  subst hp
  exact fun ls H locs hl hW hS => lv_icmp_le C.1 C.2.1 hdg ht (fun q => kt q ls H locs hl hW hS) (fun q => kf q ls H locs hl hW hS)
theorem fx_swIn (C : CallFix p m c cc nL s args Ts own) {dflt lo hi : Int} {offs : Array Int} {len : Nat} {x : Int32} {off : Int} {tgt : Nat} (hdg : decode cc pc = .ok (.tableswitch dflt lo hi offs, len)) (h1 : ¬ x.toInt < lo) (h2 : ¬ hi < x.toInt) (ho : offs[(x.toInt - lo).toNat]? = some off) (ht : (pc : Int) + off = (tgt : Int))
    (kk : fw_H p l e R s m args below meth c cells slots Q nL A Wd (tgt) lv (st)) : fw_H p l e R s m args below meth c cells slots Q nL A Wd (pc) lv (.int x :: st) :=
  fun ls H locs hl hW hS => lv_tableIn C.1 C.2.1 hdg h1 h2 ho ht (kk ls H locs hl hW hS)
theorem fx_swOut (C : CallFix p m c cc nL s args Ts own) {dflt lo hi : Int} {offs : Array Int} {len : Nat} {x : Int32} {tgt : Nat} (hdg : decode cc pc = .ok (.tableswitch dflt lo hi offs, len)) (h : x.toInt < lo ∨ hi < x.toInt) (ht : (pc : Int) + dflt = (tgt : Int))
    (kk : fw_H p l e R s m args below meth c cells slots Q nL A Wd (tgt) lv (st)) : fw_H p l e R s m args below meth c cells slots Q nL A Wd (pc) lv (.int x :: st) :=
  fun ls H locs hl hW hS => lv_tableOut C.1 C.2.1 hdg h ht (kk ls H locs hl hW hS)
theorem fx_lookup (C : CallFix p m c cc nL s args Ts own) {dflt : Int} {ps : Array (Int × Int)} {len : Nat} {x : Int32} {off : Int} {tgt : Nat} (hdg : decode cc pc = .ok (.lookupswitch dflt ps, len)) (hp : (ps.toList.zip (ps.toList.drop 1)).all (fun (a, next) => a.1 < next.1) = true) (ho : Op.lookupswitch.offset ps.toList dflt x.toInt = off) (ht : (pc : Int) + off = (tgt : Int))
    (kk : fw_H p l e R s m args below meth c cells slots Q nL A Wd (tgt) lv (st)) : fw_H p l e R s m args below meth c cells slots Q nL A Wd (pc) lv (.int x :: st) :=
  fun ls H locs hl hW hS => lv_lookup C.1 C.2.1 hdg hp ho ht (kk ls H locs hl hW hS)
theorem fx_lv (ks : List Nat) (hk : lv_pick lv ks = lv') (kk : fw_H p l e R s m args below meth c cells slots Q nL A Wd (pc) lv' (st)) : fw_H p l e R s m args below meth c cells slots Q nL A Wd (pc) lv (st) :=
  fun ls H locs hl hW hS => kk ls H locs (lv_sub hl ks hk) hW hS
theorem fx_I {I' : Nat → Nat → Int32} (hI : I = I') (kk : fw_G p l e R s m args below meth c cells slots Q nL D aC A g n K I' (pc) lv (st)) : fw_G p l e R s m args below meth c cells slots Q nL D aC A g n K I (pc) lv (st) := hI ▸ kk
theorem fx_geti (C : fw_C p m c cc nL s args Ts own D aC n K) {pc' : Nat} {k ci N : Nat} {T : u_T} {Cn ref : String} {index : Nat} (hk : (K k).1 = ci) (hc : ci < 20) (hcl : fw_cl[ci]? = some (Cn, T, N)) (hin : ∀ w ∈ u_ws Cn T N, w ∈ Ts) (j : Nat) (hj : j < N) (hjn : j < fw_nf ci) (hrf : fw_rf ci j = false) (hlink : (Cond.fieldLink own index ref (T j).2.1 (T j).2.2.1).before args s = true) (hsame : (T j).1 = ref) (hdg : decode cc pc = .ok (.getfield index, 3)) (hp : pc + 3 = pc')
    (kk : fw_H p l e R s m args below meth c cells slots Q nL A (fw_Wd D aC A' g n K I) (pc') lv (.int (I k j) :: st)) : fw_H p l e R s m args below meth c cells slots Q nL A (fw_Wd D aC A' g n K I) (pc) lv (.ref (g k) :: st) := by
  subst hp
  exact fun ls H locs hl hW hS => va_get C.1.1 C.1.2.1 C.1.2.2.2.2 hin C.1.2.2.2.1 C.2.1 hW.1 k (fw_obj C.2.2 hk hc) hcl j hj hlink (fun x h => by rw [← hsame]; exact h) (v := .int (I k j)) (by rw [fw_fs_get hjn, fw_fd_i hrf]) hdg (kk ls H locs hl hW hS)
theorem fx_getr (C : fw_C p m c cc nL s args Ts own D aC n K) {pc' : Nat} {k ci N : Nat} {T : u_T} {Cn ref : String} {index : Nat} (hk : (K k).1 = ci) (hc : ci < 20) (hcl : fw_cl[ci]? = some (Cn, T, N)) (hin : ∀ w ∈ u_ws Cn T N, w ∈ Ts) (j : Nat) (hj : j < N) (hjn : j < fw_nf ci) (hrf : fw_rf ci j = true) {a : Nat} (hx : ¬ I k j < 0) (ha : (I k j).toNatClampNeg = a) (hlink : (Cond.fieldLink own index ref (T j).2.1 (T j).2.2.1).before args s = true) (hsame : (T j).1 = ref) (hdg : decode cc pc = .ok (.getfield index, 3)) (hp : pc + 3 = pc')
    (kk : fw_H p l e R s m args below meth c cells slots Q nL A (fw_Wd D aC A' g n K I) (pc') lv (.ref (g a) :: st)) : fw_H p l e R s m args below meth c cells slots Q nL A (fw_Wd D aC A' g n K I) (pc) lv (.ref (g k) :: st) := by
  subst hp
  exact fun ls H locs hl hW hS => va_get C.1.1 C.1.2.1 C.1.2.2.2.2 hin C.1.2.2.2.1 C.2.1 hW.1 k (fw_obj C.2.2 hk hc) hcl j hj hlink (fun x h => by rw [← hsame]; exact h) (v := .ref (g a)) (by rw [fw_fs_get hjn, fw_fd_r hrf hx ha]) hdg (kk ls H locs hl hW hS)
theorem fx_puti (C : fw_C p m c cc nL s args Ts own D aC n K) {pc' : Nat} {I2 : Nat → Nat → Int32} {k ci N : Nat} {T : u_T} {Cn ref : String} {index : Nat} (hk : (K k).1 = ci) (hc : ci < 20) (hcl : fw_cl[ci]? = some (Cn, T, N)) (hin : ∀ w ∈ u_ws Cn T N, w ∈ Ts) (j : Nat) (hj : j < N) (hjn : j < fw_nf ci) (hrf : fw_rf ci j = false) {x : Int32} (ty0 : Nat → FieldType) (hty : ∀ k, k < N → parseFieldDescriptor (T k).2.2.1 = some (ty0 k)) (hnm : ∀ a, a < N → ∀ b, b < N → a ≠ b → (T a).2.1 ≠ (T b).2.1) (hfin : (T j).2.2.2 = false) (eI : I2 = fw_up2 I k j x) {ty : FieldType} (hd : parseFieldDescriptor (T j).2.2.1 = some ty) (hn : narrow ty (.int x) = .int x) (hfit : fits ty (.int x) = true) (hlink : (Cond.fieldLink own index ref (T j).2.1 (T j).2.2.1).before args s = true) (hsame : (T j).1 = ref) (hdg : decode cc pc = .ok (.putfield index, 3)) (hp : pc + 3 = pc')
    (kk : fw_G p l e R s m args below meth c cells slots Q nL D aC A g n K I2 (pc') lv (st)) : fw_G p l e R s m args below meth c cells slots Q nL D aC A g n K I (pc) lv (.int x :: .ref (g k) :: st) := by
  subst hp
  subst eI
  exact fun ls H locs hl hW hS => va_put C.1.1 C.1.2.1 C.1.2.2.2.2 hin ty0 hty hnm C.1.2.2.2.1 C.2.1 hW.1 hW.2 hS k (fw_obj C.2.2 hk hc) hcl j hj hlink (fun x h => by rw [← hsame]; exact h) hfin hd hn hfit (by rw [fw_fs_len]; exact hjn) hdg (fun H1 locs1 hP1 hD1 hS1 => kk ls H1 locs1 hl ⟨fw_toP (fw_objset C.2.2 hk hc hjn (fw_pv_i hrf)) hP1, fw_toD (fw_objset C.2.2 hk hc hjn (fw_pv_i hrf)) hD1⟩ hS1)
theorem fx_putr (C : fw_C p m c cc nL s args Ts own D aC n K) {pc' : Nat} {I2 : Nat → Nat → Int32} {k ci N : Nat} {T : u_T} {Cn ref : String} {index : Nat} (hk : (K k).1 = ci) (hc : ci < 20) (hcl : fw_cl[ci]? = some (Cn, T, N)) (hin : ∀ w ∈ u_ws Cn T N, w ∈ Ts) (j : Nat) (hj : j < N) (hjn : j < fw_nf ci) (hrf : fw_rf ci j = true) {a : Nat} {x : Int32} (hx : ¬ x < 0) (ha : x.toNatClampNeg = a) (ty0 : Nat → FieldType) (hty : ∀ k, k < N → parseFieldDescriptor (T k).2.2.1 = some (ty0 k)) (hnm : ∀ a, a < N → ∀ b, b < N → a ≠ b → (T a).2.1 ≠ (T b).2.1) (hfin : (T j).2.2.2 = false) (eI : I2 = fw_up2 I k j x) {ty : FieldType} (hd : parseFieldDescriptor (T j).2.2.1 = some ty) (hn : narrow ty (.ref (g a)) = .ref (g a)) (hfit : fits ty (.ref (g a)) = true) (hlink : (Cond.fieldLink own index ref (T j).2.1 (T j).2.2.1).before args s = true) (hsame : (T j).1 = ref) (hdg : decode cc pc = .ok (.putfield index, 3)) (hp : pc + 3 = pc')
    (kk : fw_G p l e R s m args below meth c cells slots Q nL D aC A g n K I2 (pc') lv (st)) : fw_G p l e R s m args below meth c cells slots Q nL D aC A g n K I (pc) lv (.ref (g a) :: .ref (g k) :: st) := by
  subst hp
  subst eI
  exact fun ls H locs hl hW hS => va_put C.1.1 C.1.2.1 C.1.2.2.2.2 hin ty0 hty hnm C.1.2.2.2.1 C.2.1 hW.1 hW.2 hS k (fw_obj C.2.2 hk hc) hcl j hj hlink (fun x h => by rw [← hsame]; exact h) hfin hd hn hfit (by rw [fw_fs_len]; exact hjn) hdg (fun H1 locs1 hP1 hD1 hS1 => kk ls H1 locs1 hl ⟨fw_toP (fw_objset C.2.2 hk hc hjn (fw_pv_r hrf hx ha)) hP1, fw_toD (fw_objset C.2.2 hk hc hjn (fw_pv_r hrf hx ha)) hD1⟩ hS1)
theorem fx_putiF (C : fw_C p m c cc nL s args Ts own D aC n K) {pc' : Nat} {I2 : Nat → Nat → Int32} {k ci N : Nat} {T : u_T} {Cn ref : String} {index : Nat} (hk : (K k).1 = ci) (hc : ci < 20) (hcl : fw_cl[ci]? = some (Cn, T, N)) (hin : ∀ w ∈ u_ws Cn T N, w ∈ Ts) (j : Nat) (hj : j < N) (hjn : j < fw_nf ci) (hrf : fw_rf ci j = false) {x : Int32} (ty0 : Nat → FieldType) (hty : ∀ k, k < N → parseFieldDescriptor (T k).2.2.1 = some (ty0 k)) (hnm : ∀ a, a < N → ∀ b, b < N → a ≠ b → (T a).2.1 ≠ (T b).2.1) (hfin : (T j).2.2.2 = true) (hin2 : meth.name = "<init>") (hdecl : (T j).1 = own) (eI : I2 = fw_up2 I k j x) {ty : FieldType} (hd : parseFieldDescriptor (T j).2.2.1 = some ty) (hn : narrow ty (.int x) = .int x) (hfit : fits ty (.int x) = true) (hlink : (Cond.fieldLink own index ref (T j).2.1 (T j).2.2.1).before args s = true) (hsame : (T j).1 = ref) (hdg : decode cc pc = .ok (.putfield index, 3)) (hp : pc + 3 = pc')
    (kk : fw_G p l e R s m args below meth c cells slots Q nL D aC A g n K I2 (pc') lv (st)) : fw_G p l e R s m args below meth c cells slots Q nL D aC A g n K I (pc) lv (.int x :: .ref (g k) :: st) := by
  subst hp
  subst eI
  exact fun ls H locs hl hW hS => va_putF C.1.1 C.1.2.1 C.1.2.2.2.2 hin ty0 hty hnm C.1.2.2.2.1 C.2.1 hW.1 hW.2 hS k (fw_obj C.2.2 hk hc) hcl j hj hlink (fun x h => by rw [← hsame]; exact h) hfin hin2 hdecl hd hn hfit (by rw [fw_fs_len]; exact hjn) hdg (fun H1 locs1 hP1 hD1 hS1 => kk ls H1 locs1 hl ⟨fw_toP (fw_objset C.2.2 hk hc hjn (fw_pv_i hrf)) hP1, fw_toD (fw_objset C.2.2 hk hc hjn (fw_pv_i hrf)) hD1⟩ hS1)
theorem fx_putrF (C : fw_C p m c cc nL s args Ts own D aC n K) {pc' : Nat} {I2 : Nat → Nat → Int32} {k ci N : Nat} {T : u_T} {Cn ref : String} {index : Nat} (hk : (K k).1 = ci) (hc : ci < 20) (hcl : fw_cl[ci]? = some (Cn, T, N)) (hin : ∀ w ∈ u_ws Cn T N, w ∈ Ts) (j : Nat) (hj : j < N) (hjn : j < fw_nf ci) (hrf : fw_rf ci j = true) {a : Nat} {x : Int32} (hx : ¬ x < 0) (ha : x.toNatClampNeg = a) (ty0 : Nat → FieldType) (hty : ∀ k, k < N → parseFieldDescriptor (T k).2.2.1 = some (ty0 k)) (hnm : ∀ a, a < N → ∀ b, b < N → a ≠ b → (T a).2.1 ≠ (T b).2.1) (hfin : (T j).2.2.2 = true) (hin2 : meth.name = "<init>") (hdecl : (T j).1 = own) (eI : I2 = fw_up2 I k j x) {ty : FieldType} (hd : parseFieldDescriptor (T j).2.2.1 = some ty) (hn : narrow ty (.ref (g a)) = .ref (g a)) (hfit : fits ty (.ref (g a)) = true) (hlink : (Cond.fieldLink own index ref (T j).2.1 (T j).2.2.1).before args s = true) (hsame : (T j).1 = ref) (hdg : decode cc pc = .ok (.putfield index, 3)) (hp : pc + 3 = pc')
    (kk : fw_G p l e R s m args below meth c cells slots Q nL D aC A g n K I2 (pc') lv (st)) : fw_G p l e R s m args below meth c cells slots Q nL D aC A g n K I (pc) lv (.ref (g a) :: .ref (g k) :: st) := by
  subst hp
  subst eI
  exact fun ls H locs hl hW hS => va_putF C.1.1 C.1.2.1 C.1.2.2.2.2 hin ty0 hty hnm C.1.2.2.2.1 C.2.1 hW.1 hW.2 hS k (fw_obj C.2.2 hk hc) hcl j hj hlink (fun x h => by rw [← hsame]; exact h) hfin hin2 hdecl hd hn hfit (by rw [fw_fs_len]; exact hjn) hdg (fun H1 locs1 hP1 hD1 hS1 => kk ls H1 locs1 hl ⟨fw_toP (fw_objset C.2.2 hk hc hjn (fw_pv_r hrf hx ha)) hP1, fw_toD (fw_objset C.2.2 hk hc hjn (fw_pv_r hrf hx ha)) hD1⟩ hS1)
theorem fx_getiN (C : fw_C p m c cc nL s args Ts own D aC n K) {pc' : Nat} {host : String} {k ci N : Nat} {T : u_T} {Cn ref : String} {index : Nat} (hk : (K k).1 = ci) (hc : ci < 20) (hcl : fw_cl[ci]? = some (Cn, T, N)) (hin : ∀ w ∈ u_ws Cn T N, w ∈ Ts) (j : Nat) (hj : j < N) (hjn : j < fw_nf ci) (hrf : fw_rf ci j = false) (hlink : (Cond.fieldLinkNest own index ref (T j).2.1 (T j).2.2.1 host).before args s = true) (hsame : (T j).1 = ref) (hdg : decode cc pc = .ok (.getfield index, 3)) (hp : pc + 3 = pc')
    (kk : fw_H p l e R s m args below meth c cells slots Q nL A (fw_Wd D aC A' g n K I) (pc') lv (.int (I k j) :: st)) : fw_H p l e R s m args below meth c cells slots Q nL A (fw_Wd D aC A' g n K I) (pc) lv (.ref (g k) :: st) := by
  subst hp
  exact fun ls H locs hl hW hS => va_getN C.1.1 C.1.2.1 C.1.2.2.2.2 hin C.1.2.2.2.1 C.2.1 hW.1 k (fw_obj C.2.2 hk hc) hcl j hj hlink (fun x h => by rw [← hsame]; exact h) (v := .int (I k j)) (by rw [fw_fs_get hjn, fw_fd_i hrf]) hdg (kk ls H locs hl hW hS)
theorem fx_getrN (C : fw_C p m c cc nL s args Ts own D aC n K) {pc' : Nat} {host : String} {k ci N : Nat} {T : u_T} {Cn ref : String} {index : Nat} (hk : (K k).1 = ci) (hc : ci < 20) (hcl : fw_cl[ci]? = some (Cn, T, N)) (hin : ∀ w ∈ u_ws Cn T N, w ∈ Ts) (j : Nat) (hj : j < N) (hjn : j < fw_nf ci) (hrf : fw_rf ci j = true) {a : Nat} (hx : ¬ I k j < 0) (ha : (I k j).toNatClampNeg = a) (hlink : (Cond.fieldLinkNest own index ref (T j).2.1 (T j).2.2.1 host).before args s = true) (hsame : (T j).1 = ref) (hdg : decode cc pc = .ok (.getfield index, 3)) (hp : pc + 3 = pc')
    (kk : fw_H p l e R s m args below meth c cells slots Q nL A (fw_Wd D aC A' g n K I) (pc') lv (.ref (g a) :: st)) : fw_H p l e R s m args below meth c cells slots Q nL A (fw_Wd D aC A' g n K I) (pc) lv (.ref (g k) :: st) := by
  subst hp
  exact fun ls H locs hl hW hS => va_getN C.1.1 C.1.2.1 C.1.2.2.2.2 hin C.1.2.2.2.1 C.2.1 hW.1 k (fw_obj C.2.2 hk hc) hcl j hj hlink (fun x h => by rw [← hsame]; exact h) (v := .ref (g a)) (by rw [fw_fs_get hjn, fw_fd_r hrf hx ha]) hdg (kk ls H locs hl hW hS)
theorem fx_putiN (C : fw_C p m c cc nL s args Ts own D aC n K) {pc' : Nat} {I2 : Nat → Nat → Int32} {host : String} {k ci N : Nat} {T : u_T} {Cn ref : String} {index : Nat} (hk : (K k).1 = ci) (hc : ci < 20) (hcl : fw_cl[ci]? = some (Cn, T, N)) (hin : ∀ w ∈ u_ws Cn T N, w ∈ Ts) (j : Nat) (hj : j < N) (hjn : j < fw_nf ci) (hrf : fw_rf ci j = false) {x : Int32} (ty0 : Nat → FieldType) (hty : ∀ k, k < N → parseFieldDescriptor (T k).2.2.1 = some (ty0 k)) (hnm : ∀ a, a < N → ∀ b, b < N → a ≠ b → (T a).2.1 ≠ (T b).2.1) (hfin : (T j).2.2.2 = false) (eI : I2 = fw_up2 I k j x) {ty : FieldType} (hd : parseFieldDescriptor (T j).2.2.1 = some ty) (hn : narrow ty (.int x) = .int x) (hfit : fits ty (.int x) = true) (hlink : (Cond.fieldLinkNest own index ref (T j).2.1 (T j).2.2.1 host).before args s = true) (hsame : (T j).1 = ref) (hdg : decode cc pc = .ok (.putfield index, 3)) (hp : pc + 3 = pc')
    (kk : fw_G p l e R s m args below meth c cells slots Q nL D aC A g n K I2 (pc') lv (st)) : fw_G p l e R s m args below meth c cells slots Q nL D aC A g n K I (pc) lv (.int x :: .ref (g k) :: st) := by
  subst hp
  subst eI
  exact fun ls H locs hl hW hS => va_putN C.1.1 C.1.2.1 C.1.2.2.2.2 hin ty0 hty hnm C.1.2.2.2.1 C.2.1 hW.1 hW.2 hS k (fw_obj C.2.2 hk hc) hcl j hj hlink (fun x h => by rw [← hsame]; exact h) hfin hd hn hfit (by rw [fw_fs_len]; exact hjn) hdg (fun H1 locs1 hP1 hD1 hS1 => kk ls H1 locs1 hl ⟨fw_toP (fw_objset C.2.2 hk hc hjn (fw_pv_i hrf)) hP1, fw_toD (fw_objset C.2.2 hk hc hjn (fw_pv_i hrf)) hD1⟩ hS1)
theorem fx_putrN (C : fw_C p m c cc nL s args Ts own D aC n K) {pc' : Nat} {I2 : Nat → Nat → Int32} {host : String} {k ci N : Nat} {T : u_T} {Cn ref : String} {index : Nat} (hk : (K k).1 = ci) (hc : ci < 20) (hcl : fw_cl[ci]? = some (Cn, T, N)) (hin : ∀ w ∈ u_ws Cn T N, w ∈ Ts) (j : Nat) (hj : j < N) (hjn : j < fw_nf ci) (hrf : fw_rf ci j = true) {a : Nat} {x : Int32} (hx : ¬ x < 0) (ha : x.toNatClampNeg = a) (ty0 : Nat → FieldType) (hty : ∀ k, k < N → parseFieldDescriptor (T k).2.2.1 = some (ty0 k)) (hnm : ∀ a, a < N → ∀ b, b < N → a ≠ b → (T a).2.1 ≠ (T b).2.1) (hfin : (T j).2.2.2 = false) (eI : I2 = fw_up2 I k j x) {ty : FieldType} (hd : parseFieldDescriptor (T j).2.2.1 = some ty) (hn : narrow ty (.ref (g a)) = .ref (g a)) (hfit : fits ty (.ref (g a)) = true) (hlink : (Cond.fieldLinkNest own index ref (T j).2.1 (T j).2.2.1 host).before args s = true) (hsame : (T j).1 = ref) (hdg : decode cc pc = .ok (.putfield index, 3)) (hp : pc + 3 = pc')
    (kk : fw_G p l e R s m args below meth c cells slots Q nL D aC A g n K I2 (pc') lv (st)) : fw_G p l e R s m args below meth c cells slots Q nL D aC A g n K I (pc) lv (.ref (g a) :: .ref (g k) :: st) := by
  subst hp
  subst eI
  exact fun ls H locs hl hW hS => va_putN C.1.1 C.1.2.1 C.1.2.2.2.2 hin ty0 hty hnm C.1.2.2.2.1 C.2.1 hW.1 hW.2 hS k (fw_obj C.2.2 hk hc) hcl j hj hlink (fun x h => by rw [← hsame]; exact h) hfin hd hn hfit (by rw [fw_fs_len]; exact hjn) hdg (fun H1 locs1 hP1 hD1 hS1 => kk ls H1 locs1 hl ⟨fw_toP (fw_objset C.2.2 hk hc hjn (fw_pv_r hrf hx ha)) hP1, fw_toD (fw_objset C.2.2 hk hc hjn (fw_pv_r hrf hx ha)) hD1⟩ hS1)
theorem fx_iald (C : fw_C p m c cc nL s args Ts own D aC n K) {pc' : Nat} {k : Nat} {i : Int32} (hk : (K k).1 = 20) (hin : fw_ix i (K k).2 = true) (hdg : decode cc pc = .ok (.iaload, 1)) (hp : pc + 1 = pc')
    (kk : fw_H p l e R s m args below meth c cells slots Q nL A (fw_Wd D aC A' g n K I) (pc') lv (.int (I k i.toNatClampNeg) :: st)) : fw_H p l e R s m args below meth c cells slots Q nL A (fw_Wd D aC A' g n K I) (pc) lv (.int i :: .ref (g k) :: st) := by
  subst hp
  exact fun ls H locs hl hW hS => va_iald C.1.1 C.1.2.1 C.2.1 hW.1 k 0 (fw_arr20 C.2.2 hk) rfl (fw_ix_in hin) hdg (kk ls H locs hl hW hS)
theorem fx_zald (C : fw_C p m c cc nL s args Ts own D aC n K) {pc' : Nat} {k : Nat} {i : Int32} (hk : (K k).1 = 21) (hin : fw_ix i (K k).2 = true) (hdg : decode cc pc = .ok (.baload, 1)) (hp : pc + 1 = pc')
    (kk : fw_H p l e R s m args below meth c cells slots Q nL A (fw_Wd D aC A' g n K I) (pc') lv (.int (I k i.toNatClampNeg) :: st)) : fw_H p l e R s m args below meth c cells slots Q nL A (fw_Wd D aC A' g n K I) (pc) lv (.int i :: .ref (g k) :: st) := by
  subst hp
  exact fun ls H locs hl hW hS => va_zald C.1.1 C.1.2.1 C.2.1 hW.1 k 1 (fw_arr21 C.2.2 hk) rfl (fw_ix_in hin) hdg (kk ls H locs hl hW hS)
theorem fx_iast (C : fw_C p m c cc nL s args Ts own D aC n K) {pc' : Nat} {k : Nat} {i x : Int32} {I2 : Nat → Nat → Int32} (hk : (K k).1 = 20) (hin : fw_ix i (K k).2 = true) (eI : I2 = fw_up2 I k i.toNatClampNeg x) (hdg : decode cc pc = .ok (.iastore, 1)) (hp : pc + 1 = pc')
    (kk : fw_G p l e R s m args below meth c cells slots Q nL D aC A g n K I2 (pc') lv (st)) : fw_G p l e R s m args below meth c cells slots Q nL D aC A g n K I (pc) lv (.int x :: .int i :: .ref (g k) :: st) := by
  subst hp
  subst eI
  exact fun ls H locs hl hW hS => va_iast C.1.1 C.1.2.1 C.2.1 hW.1 hW.2 hS k 0 (fw_arr20 C.2.2 hk) rfl (fw_ix_in hin) hdg (fun H1 locs1 hP1 hD1 hS1 => kk ls H1 locs1 hl ⟨fw_toP (fw_arrset20 C.2.2 hk) hP1, fw_toD (fw_arrset20 C.2.2 hk) hD1⟩ hS1)
theorem fx_zast (C : fw_C p m c cc nL s args Ts own D aC n K) {pc' : Nat} {k : Nat} {i x : Int32} {I2 : Nat → Nat → Int32} (hk : (K k).1 = 21) (hin : fw_ix i (K k).2 = true) (hb : fw_bl x = true) (eI : I2 = fw_up2 I k i.toNatClampNeg x) (hdg : decode cc pc = .ok (.bastore, 1)) (hp : pc + 1 = pc')
    (kk : fw_G p l e R s m args below meth c cells slots Q nL D aC A g n K I2 (pc') lv (st)) : fw_G p l e R s m args below meth c cells slots Q nL D aC A g n K I (pc) lv (.int x :: .int i :: .ref (g k) :: st) := by
  subst hp
  subst eI
  exact fun ls H locs hl hW hS => va_zast C.1.1 C.1.2.1 C.2.1 hW.1 hW.2 hS k 1 (fw_arr21 C.2.2 hk) rfl (fw_ix_in hin) hdg (fun H1 locs1 hP1 hD1 hS1 => kk ls H1 locs1 hl ⟨fw_toP (fw_arrset21 C.2.2 hk (fw_nar hb)) hP1, fw_toD (fw_arrset21 C.2.2 hk (fw_nar hb)) hD1⟩ hS1)
theorem fx_aald23 (C : fw_C p m c cc nL s args Ts own D aC n K) {pc' : Nat} {k a : Nat} {i : Int32} (hk : (K k).1 = 23) (hin : fw_ix i (K k).2 = true) (hx : ¬ I k i.toNatClampNeg < 0) (ha : (I k i.toNatClampNeg).toNatClampNeg = a) (hdg : decode cc pc = .ok (.aaload, 1)) (hp : pc + 1 = pc')
    (kk : fw_H p l e R s m args below meth c cells slots Q nL A (fw_Wd D aC A' g n K I) (pc') lv (.ref (g a) :: st)) : fw_H p l e R s m args below meth c cells slots Q nL A (fw_Wd D aC A' g n K I) (pc) lv (.int i :: .ref (g k) :: st) := by
  subst hp
  exact fun ls H locs hl hW hS => va_aldq C.1.1 C.1.2.1 C.2.1 hW.1 k 3 (fw_arr23 C.2.2 hk) rfl (fw_ix_in hin) hdg (by rw [fw_ro_some hx, ha]; exact kk ls H locs hl hW hS)
theorem fx_aast23 (C : fw_C p m c cc nL s args Ts own D aC n K) {pc' : Nat} {k a : Nat} {i x : Int32} {I2 : Nat → Nat → Int32} (hk : (K k).1 = 23) (hin : fw_ix i (K k).2 = true) (eI : I2 = fw_up2 I k i.toNatClampNeg x) (ha : (K a).1 = fw_el 23) (hx : ¬ x < 0) (hxa : x.toNatClampNeg = a) (hdg : decode cc pc = .ok (.aastore, 1)) (hp : pc + 1 = pc')
    (kk : fw_G p l e R s m args below meth c cells slots Q nL D aC A g n K I2 (pc') lv (st)) : fw_G p l e R s m args below meth c cells slots Q nL D aC A g n K I (pc) lv (.ref (g a) :: .int i :: .ref (g k) :: st) := by
  subst hp
  subst eI
  exact fun ls H locs hl hW hS => va_astq C.1.1 C.1.2.1 C.2.1 hW.1 hW.2 hS k 3 a (fw_el 23) (fw_arr23 C.2.2 hk) rfl (fw_obj C.2.2 ha (by decide)) rfl (fw_ix_in hin) hdg (fun H1 locs1 hP1 hD1 hS1 => kk ls H1 locs1 hl ⟨fw_toP (fw_arrset23 C.2.2 hk hx hxa) hP1, fw_toD (fw_arrset23 C.2.2 hk hx hxa) hD1⟩ hS1)
theorem fx_aald24 (C : fw_C p m c cc nL s args Ts own D aC n K) {pc' : Nat} {k a : Nat} {i : Int32} (hk : (K k).1 = 24) (hin : fw_ix i (K k).2 = true) (hx : ¬ I k i.toNatClampNeg < 0) (ha : (I k i.toNatClampNeg).toNatClampNeg = a) (hdg : decode cc pc = .ok (.aaload, 1)) (hp : pc + 1 = pc')
    (kk : fw_H p l e R s m args below meth c cells slots Q nL A (fw_Wd D aC A' g n K I) (pc') lv (.ref (g a) :: st)) : fw_H p l e R s m args below meth c cells slots Q nL A (fw_Wd D aC A' g n K I) (pc) lv (.int i :: .ref (g k) :: st) := by
  subst hp
  exact fun ls H locs hl hW hS => va_aldq C.1.1 C.1.2.1 C.2.1 hW.1 k 4 (fw_arr24 C.2.2 hk) rfl (fw_ix_in hin) hdg (by rw [fw_ro_some hx, ha]; exact kk ls H locs hl hW hS)
theorem fx_aast24 (C : fw_C p m c cc nL s args Ts own D aC n K) {pc' : Nat} {k a : Nat} {i x : Int32} {I2 : Nat → Nat → Int32} (hk : (K k).1 = 24) (hin : fw_ix i (K k).2 = true) (eI : I2 = fw_up2 I k i.toNatClampNeg x) (ha : (K a).1 = fw_el 24) (hx : ¬ x < 0) (hxa : x.toNatClampNeg = a) (hdg : decode cc pc = .ok (.aastore, 1)) (hp : pc + 1 = pc')
    (kk : fw_G p l e R s m args below meth c cells slots Q nL D aC A g n K I2 (pc') lv (st)) : fw_G p l e R s m args below meth c cells slots Q nL D aC A g n K I (pc) lv (.ref (g a) :: .int i :: .ref (g k) :: st) := by
  subst hp
  subst eI
  exact fun ls H locs hl hW hS => va_astq C.1.1 C.1.2.1 C.2.1 hW.1 hW.2 hS k 4 a (fw_el 24) (fw_arr24 C.2.2 hk) rfl (fw_obj C.2.2 ha (by decide)) rfl (fw_ix_in hin) hdg (fun H1 locs1 hP1 hD1 hS1 => kk ls H1 locs1 hl ⟨fw_toP (fw_arrset24 C.2.2 hk hx hxa) hP1, fw_toD (fw_arrset24 C.2.2 hk hx hxa) hD1⟩ hS1)
theorem fx_aald25 (C : fw_C p m c cc nL s args Ts own D aC n K) {pc' : Nat} {k a : Nat} {i : Int32} (hk : (K k).1 = 25) (hin : fw_ix i (K k).2 = true) (hx : ¬ I k i.toNatClampNeg < 0) (ha : (I k i.toNatClampNeg).toNatClampNeg = a) (hdg : decode cc pc = .ok (.aaload, 1)) (hp : pc + 1 = pc')
    (kk : fw_H p l e R s m args below meth c cells slots Q nL A (fw_Wd D aC A' g n K I) (pc') lv (.ref (g a) :: st)) : fw_H p l e R s m args below meth c cells slots Q nL A (fw_Wd D aC A' g n K I) (pc) lv (.int i :: .ref (g k) :: st) := by
  subst hp
  exact fun ls H locs hl hW hS => va_aldq C.1.1 C.1.2.1 C.2.1 hW.1 k 5 (fw_arr25 C.2.2 hk) rfl (fw_ix_in hin) hdg (by rw [fw_ro_some hx, ha]; exact kk ls H locs hl hW hS)
theorem fx_aast25 (C : fw_C p m c cc nL s args Ts own D aC n K) {pc' : Nat} {k a : Nat} {i x : Int32} {I2 : Nat → Nat → Int32} (hk : (K k).1 = 25) (hin : fw_ix i (K k).2 = true) (eI : I2 = fw_up2 I k i.toNatClampNeg x) (ha : (K a).1 = fw_el 25) (hx : ¬ x < 0) (hxa : x.toNatClampNeg = a) (hdg : decode cc pc = .ok (.aastore, 1)) (hp : pc + 1 = pc')
    (kk : fw_G p l e R s m args below meth c cells slots Q nL D aC A g n K I2 (pc') lv (st)) : fw_G p l e R s m args below meth c cells slots Q nL D aC A g n K I (pc) lv (.ref (g a) :: .int i :: .ref (g k) :: st) := by
  subst hp
  subst eI
  exact fun ls H locs hl hW hS => va_astq C.1.1 C.1.2.1 C.2.1 hW.1 hW.2 hS k 5 a (fw_el 25) (fw_arr25 C.2.2 hk) rfl (fw_obj C.2.2 ha (by decide)) rfl (fw_ix_in hin) hdg (fun H1 locs1 hP1 hD1 hS1 => kk ls H1 locs1 hl ⟨fw_toP (fw_arrset25 C.2.2 hk hx hxa) hP1, fw_toD (fw_arrset25 C.2.2 hk hx hxa) hD1⟩ hS1)
end FWR

