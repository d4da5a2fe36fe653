/-! methods that only read, and ends by a throw -/
def fw_P0 (D : va_G) (aC : Nat → ClassId) (g : Nat → Nat) (n : Nat) (K : Nat → Nat × Nat) (I : Nat → Nat → Int32) (av : List Value) : Array Value → State → Prop :=
  va_Pc av (fun U => fw_B D aC g n K I U ∧ va_D (fun _ => True) (fw_W g n (fw_M aC g K I)))
theorem fw_P0_blind {D : va_G} {aC : Nat → ClassId} {g : Nat → Nat} {n : Nat} {K : Nat → Nat × Nat} {I : Nat → Nat → Int32} {av : List Value} : FrameBlind (fw_P0 D aC g n K I av) := by
  intro a U g' mk q
  obtain ⟨q0, ⟨qP, qK, qN⟩, qD⟩ := q
  exact ⟨q0, ⟨qP, va_K.moved (u := U) (U := U.calling g' mk a) (Vm.Alike.refl U.vm) qK, fw_N.same (s := U) (U := U.calling g' mk a) rfl qN⟩, qD⟩
def fw_Mi0 (l : Launch) (y : MethodName) (ws : List Cond) (rm : Room) (D : va_G) (aC : Nat → ClassId) (g : Nat → Nat) (n : Nat) (K : Nat → Nat × Nat) (I : Nat → Nat → Int32) (av : List Value) (Rr : Int32 × (Nat → Nat → Int32)) : Prop :=
  Met l y ws rm (fw_P0 D aC g n K I av) (va_Qi (fun r u => (r, u) = Rr) (fun u t => fw_B D aC g n K u t) (fun _ => False)) 0 0 (fun _ => False)
abbrev fw_G0 (p : Program) (l : Launch) (e : Env) (R : Room) (s : State) (m : MethodId) (args : Array Value) (below : List Frame) (meth : Method) (c : Code) (Q : State → Prop) (nL : Nat) (D : va_G) (aC : Nat → ClassId) (g : Nat → Nat) (n : Nat) (K : Nat → Nat × Nat) (I : Nat → Nat → Int32) (pc : Nat) (lv : List (Nat × Value)) (st : List Value) : Prop :=
  fw_H p l e R s m args below meth c 0 0 Q nL (fun _ => False) (fw_Wd D aC (fun _ => True) g n K I) pc lv st
section FWP
variable {p : Program} {l : Launch} {e : Env} {R : Room} {s : State} {m : MethodId} {args : Array Value} {below : List Frame} {meth : Method} {c : Code} {Q : State → Prop}
variable {cc bytes : ByteArray} {nL maxL : Nat} {Ts ws ws' : List Cond} {own : String} {D : va_G} {aC : Nat → ClassId} {g : Nat → Nat} {n : Nat} {K : Nat → Nat × Nat} {I I2 : Nat → Nat → Int32} {pc pc' : Nat} {lv : List (Nat × Value)} {st st0 As av : List Value} {y : MethodName} {rm : Room} {ret : Option FieldType} {index na : Nat}
theorem fw_ofGi0 {rt : FieldType} {Rr : Int32 × (Nat → Nat → Int32)} (hy : plainName y.cls = true) (hn : ∀ k, (K k).1 < 99 → k < n) (hlen : (lg_sl av).length ≤ maxL) (hw : ws = Cond.code y cc maxL (some rt) :: ws')
    (body : ∀ (p : Program) (e : Env) (s : State) (m : MethodId) (args : Array Value) (below : List Frame) (meth : Method) (c : Code) (Q : State → Prop), fw_C p m c cc maxL s args ws y.cls D aC n K → fw_N s → (∀ (I' : Nat → Nat → Int32) (lv : List (Nat × Value)) (v : Int32) (hnv : narrow rt (.int v) = .int v) (pc : Nat), decode cc pc = .ok (.ireturn, 1) → some (v, I') = some Rr → fw_G0 p l e rm s m args below meth c Q maxL D aC g n K I' pc lv [.int v]) → fw_G0 p l e rm s m args below meth c Q maxL D aC g n K I 0 (lv_args 0 av) []) : fw_Mi0 l y ws rm D aC g n K I av Rr := by
  refine Met.ofW (cc := cc) (maxL := maxL) (ret := (some rt)) hy hw ?_
  intro p e s m args below meth c s₁ B hml hv
  obtain ⟨rfl, ⟨hP, hK, hN⟩, hD0⟩ := hv
  have hts := atoms_spec (ws := ws) B.pre
  have hown : s.vm.findClass y.cls = some m.cls := findClass_of_methodNamed B.named
  have hlocks := B.notSynchronized
  have hr := B.returns
  have hC : fw_C p m c cc maxL s av.toArray ws y.cls D aC n K := ⟨⟨B.exec, B.bytes, hml, hown, hts⟩, hK, hn⟩
  have hl := lv_entry av (n := maxL) hlen
  rw [lg_entry_eq]
  refine body p e s m av.toArray below meth c _ hC hN ?_ _ s.heap [] hl ⟨hP, hD0⟩ va_S.rf
  intro I' lv v hnv pc hdg hR ls H locs hl ⟨hP, hD⟩ hS
  exact W.zret B.exec B.bytes hr hnv (fun t ht hW => ⟨⟨v, I', rfl, Option.some.inj hR, by rw [ht]; exact hP, va_K.moved hW.alike hK, fw_N.warm hW hN⟩, hS.F ht⟩) hS.2.2 hdg
theorem fx_callVi0 (C : fw_C p m c cc nL s args Ts own D aC n K) (hN : fw_N s) {k ci N : Nat} {T : u_T} {Cn : String} (hk : (K k).1 = ci) (hc : ci < 20) (hcl : fw_cl[ci]? = some (Cn, T, N)) {r : Int32} (hM : fw_Mi0 l y ws rm D aC g n K I (.ref (g k) :: As) (r, I2)) (cw : CallW R s args own Cn index y bytes maxL ret ws rm 0 0 na) (hna : As.length = na) (hst : st0 = As.reverse ++ .ref (g k) :: st) (hrm : (st.map fun v => v.category).sum ≤ 8) (hdg : decode cc pc = .ok (.invokevirtual index, 3)) (hp : pc + 3 = pc')
    (kk : fw_G0 p l e R s m args below meth c Q nL D aC g n K I2 pc' lv (.int r :: st)) : fw_G0 p l e R s m args below meth c Q nL D aC g n K I pc lv st0 := by
  subst hp
  intro ls H locs hl ⟨hP, hD⟩ hS
  refine va_calli (va_runV (As := As) (rest := st) C.1 hM cw ⟨fw_P0_blind, va_recv C.2.1 hP hcl (fw_obj C.2.2 hk hc), fun U hU hW => ⟨rfl, ⟨by rw [hU]; exact hP, va_K.moved hW.alike C.2.1, fw_N.warm hW hN⟩, hD⟩⟩ rfl hna hl.1 hst (lv_room hrm) hdg ⟨Nat.zero_le _, Nat.zero_le _⟩) hS (fun q _ h => h) (fun q h => h) (fun r' u t H1 locs1 ht hvm hw hB hz1 hk1 hS1 => ?_)
  cases hw
  exact kk ls H1 locs1 hl ⟨by rw [← ht]; exact hB.1, fw_D_any hD⟩ hS1
theorem fx_callVNi0 (C : fw_C p m c cc nL s args Ts own D aC n K) (hN : fw_N s) {k ci N : Nat} {T : u_T} {Cn host : String} (hk : (K k).1 = ci) (hc : ci < 20) (hcl : fw_cl[ci]? = some (Cn, T, N)) {r : Int32} (hM : fw_Mi0 l y ws rm D aC g n K I (.ref (g k) :: As) (r, I2)) (cw : va_CN R s args own index y host bytes maxL ret ws rm 0 0 na ∧ (Cond.instanceMethod y).before args s = true ∧ (Cond.selects Cn y y).before args s = true) (hna : As.length = na) (hst : st0 = As.reverse ++ .ref (g k) :: st) (hrm : (st.map fun v => v.category).sum ≤ 8) (hdg : decode cc pc = .ok (.invokevirtual index, 3)) (hp : pc + 3 = pc')
    (kk : fw_G0 p l e R s m args below meth c Q nL D aC g n K I2 pc' lv (.int r :: st)) : fw_G0 p l e R s m args below meth c Q nL D aC g n K I pc lv st0 := by
  subst hp
  intro ls H locs hl ⟨hP, hD⟩ hS
  refine va_calli (va_runVN (As := As) (rest := st) C.1 hM cw ⟨fw_P0_blind, va_recv C.2.1 hP hcl (fw_obj C.2.2 hk hc), fun U hU hW => ⟨rfl, ⟨by rw [hU]; exact hP, va_K.moved hW.alike C.2.1, fw_N.warm hW hN⟩, hD⟩⟩ rfl hna hl.1 hst (lv_room hrm) hdg ⟨Nat.zero_le _, Nat.zero_le _⟩) hS (fun q _ h => h) (fun q h => h) (fun r' u t H1 locs1 ht hvm hw hB hz1 hk1 hS1 => ?_)
  cases hw
  exact kk ls H1 locs1 hl ⟨by rw [← ht]; exact hB.1, fw_D_any hD⟩ hS1
theorem fx_callSi0 (C : fw_C p m c cc nL s args Ts own D aC n K) (hN : fw_N s) {r : Int32} (hM : fw_Mi0 l y ws rm D aC g n K I As (r, I2)) (cw : CallB R s args own index y bytes maxL ret ws rm 0 0 na ∧ (Cond.static y).before args s = true) (hna : As.length = na) (hst : st0 = As.reverse ++ st) (hrm : (st.map fun v => v.category).sum ≤ 8) (hdg : decode cc pc = .ok (.invokestatic index, 3)) (hp : pc + 3 = pc')
    (kk : fw_G0 p l e R s m args below meth c Q nL D aC g n K I2 pc' lv (.int r :: st)) : fw_G0 p l e R s m args below meth c Q nL D aC g n K I pc lv st0 := by
  subst hp
  intro ls H locs hl ⟨hP, hD⟩ hS
  refine va_calli (va_runS (As := As) (rest := st) C.1 hM cw ⟨fw_P0_blind, fun U hU hW => ⟨rfl, ⟨by rw [hU]; exact hP, va_K.moved hW.alike C.2.1, fw_N.warm hW hN⟩, hD⟩⟩ rfl hna hl.1 hst (lv_room hrm) hdg ⟨Nat.zero_le _, Nat.zero_le _⟩) hS (fun q _ h => h) (fun q h => h) (fun r' u t H1 locs1 ht hvm hw hB hz1 hk1 hS1 => ?_)
  cases hw
  exact kk ls H1 locs1 hl ⟨by rw [← ht]; exact hB.1, fw_D_any hD⟩ hS1
end FWP
/-! the end by a throw -/
def fw_PT (D : va_G) (aC : Nat → ClassId) (g : Nat → Nat) (n : Nat) (K : Nat → Nat × Nat) (I : Nat → Nat → Int32) (av : List Value) : Array Value → State → Prop :=
  va_Pc av (fun U => fw_B D aC g n K I U ∧ va_D (fun _ => True) (fw_W g n (fw_M aC g K I)) ∧ th_T U)
/-- it threw x, a new object of the class X; all that was there before stays -/
def fw_Qt (D : va_G) (aC : Nat → ClassId) (g : Nat → Nat) (n : Nat) (K : Nat → Nat × Nat) (I : Nat → Nat → Int32) (X : String) (st : State) (o : Outcome) (t : State) : Prop :=
  ∃ x, o = .threw x ∧ fw_B D aC g n K I t ∧ (∃ ce : Cell, t.heap[x]? = some ce ∧ (∀ k, ce.vm ≠ .statics k) ∧ st.vm.findClass X = some ce.cls) ∧ st.WarmedH t.vm ∧ st.sameButNew ({ t with vm := st.vm } : State) [] 1 6
def fw_Mt (l : Launch) (y : MethodName) (ws : List Cond) (rm : Room) (D : va_G) (aC : Nat → ClassId) (g : Nat → Nat) (n : Nat) (K : Nat → Nat × Nat) (I I2 : Nat → Nat → Int32) (av : List Value) (X : String) : Prop :=
  MetFree l y (headSpec ws rm) (fw_PT D aC g n K I av) (fun _ _ _ _ _ => True) (fun _ st o t => fw_Qt D aC g n K I2 X st o t)
def fw_ZT (below : List Frame) (D : va_G) (aC : Nat → ClassId) (g : Nat → Nat) (n : Nat) (K : Nat → Nat × Nat) (I : Nat → Nat → Int32) (X : String) (s : State) : State → Prop := fun t => ∃ o, t.status = .running ∧ Ended t below o ∧ fw_Qt D aC g n K I X s o t
theorem th_keep {s t : State} {k n : Nat} (h : s.sameButNew t [] k n) : ∀ q : Nat, q < s.heap.size → t.heap[q]? = s.heap[q]? := by
  intro q hq
  have hc : s.heap[q]? = some s.heap[q] := Array.getElem?_eq_getElem hq
  obtain ⟨c', h1, h2, h3, h4⟩ := h.2.2.2.2.2 q _ hc
  have h5 : c'.slots = s.heap[q].slots := Array.ext_getElem? (fun i => h4 i (by simp))
  rw [h1, hc, h2, h5]
section FWT
variable {p : Program} {l : Launch} {e : Env} {R : Room} {s : State} {m : MethodId} {args : Array Value} {below : List Frame} {meth : Method} {c : Code} {Q : State → Prop}
variable {cc bytes : ByteArray} {nL maxL : Nat} {Ts ws ws' : List Cond} {own : String} {D : va_G} {aC : Nat → ClassId} {g : Nat → Nat} {n : Nat} {K : Nat → Nat × Nat} {I I2 : Nat → Nat → Int32} {pc pc' : Nat} {lv : List (Nat × Value)} {st st0 As av : List Value} {y : MethodName} {rm : Room} {ret : Option FieldType} {index na : Nat} {X : String}
theorem fw_ofGt (hy : plainName y.cls = true) (hn : ∀ k, (K k).1 < 99 → k < n) (hlen : (lg_sl av).length ≤ maxL) (hw : ws = Cond.code y cc maxL ret :: ws')
    (body : ∀ (p : Program) (e : Env) (s : State) (m : MethodId) (args : Array Value) (below : List Frame) (meth : Method) (c : Code), fw_C p m c cc maxL s args ws y.cls D aC n K → fw_N s → th_T s → meth.locks = false → c.exceptionTable.isEmpty = true → fw_G0 p l e rm s m args below meth c (fw_ZT below D aC g n K I2 X s) maxL D aC g n K I 0 (lv_args 0 av) []) : fw_Mt l y ws rm D aC g n K I I2 av X := by
  refine MetFree.of_bodyS (code := cc) (maxLocals := maxL) (ret := ret) hy ?_ ?_
  · intro args s m h hn
    obtain ⟨meth, c, h1, h2, h3, h4, h5, h6, -, -⟩ := Cond.code_spec hn (atoms_spec (ws := ws) h _ (by rw [hw]; exact List.mem_cons_self))
    exact ⟨meth, c, h1, h2, h3, h4, h5, h6⟩
  · intro p e s m args below meth c s₁ B hml hv _
    have hh0 : s₁.heap = s.heap := by rw [B.state]; rfl
    obtain ⟨rfl, ⟨hP, hK, hN⟩, hD0, hT⟩ := hv
    have hts := atoms_spec (ws := ws) B.pre
    have hown : s.vm.findClass y.cls = some m.cls := findClass_of_methodNamed B.named
    have hC : fw_C p m c cc maxL s av.toArray ws y.cls D aC n K := ⟨⟨B.exec, B.bytes, hml, hown, hts⟩, hK, hn⟩
    have hl := lv_entry av (n := maxL) hlen
    have k1 := body p e s m av.toArray below meth c hC hN hT B.notSynchronized (B.noHandlers (hts _ (by rw [hw]; exact List.mem_cons_self))) _ s.heap [] hl ⟨hP, hD0⟩ va_S.rf
    obtain ⟨t, a1, o, b1, b2, b3⟩ := k1 s₁ hh0 (by exact Stand.of_body B)
    exact ⟨t, o, by rw [← lg_entry_eq] at a1; exact a1, b1, b2, b3⟩
theorem fx_throw {ia ib ic : Nat} {tx : String} (C : fw_C p m c cc nL s args Ts own D aC n K) (hw : ∀ w ∈ fw_ws, w.before args s = true) (hN : fw_N s) (hT : th_T s) (hst : l.stackTraces = false) (hZ : ∃ a, vk_R own ib tx a s) (hat : (Bundle.ownAtoms own ic X th_sup).all th_ok = true) (hfit : Bundle.fit X = true) (hclk : (Cond.classLink own ia X).before args s = true) (hini : (Cond.initialized X).before args s = true) (hlk : meth.locks = false) (hex : c.exceptionTable.isEmpty = true) (h1 : 1 ≤ R.cells) (h2 : 6 ≤ R.slots) (h3 : 5 < R.frames) (h4 : 82 ≤ R.locals)
    (hd0 : decode cc pc = .ok (.new ia, 3)) (hd3 : decode cc (pc + 3) = .ok (.dup, 1)) (hd4 : decode cc (pc + 4) = .ok (.ldc ib, 2)) (hd6 : decode cc (pc + 6) = .ok (.invokespecial ic, 3)) (hd9 : decode cc (pc + 9) = .ok (.athrow, 1)) : fw_G0 p l e R s m args below meth c (fw_ZT below D aC g n K I X s) nL D aC g n K I pc lv [] := by
  intro ls H locs hlv hW hS T0 hT0 X0
  have hlc : locs = [] := by
    cases locs with
    | nil => rfl
    | cons q r => exact (hS.2.2 q List.mem_cons_self).elim
  subst hlc
  have hz : H.size ≤ s.heap.size := by
    have h := X0.heapSize
    rw [hT0] at h
    omega
  obtain ⟨msg, hZ⟩ := hZ
  have hwords := th_words hat hw hN hT
  have hin6 := hwords (.instantiable X 6) (by simp [Bundle.ownAtoms])
  obtain ⟨cX, kX, hcX, hkX, -⟩ := Cond.instantiable_spec hin6
  have w : W p l e R s m args below meth c H [] 0 0 (fw_ZT below D aC g n K I X s) (F0 m pc ls []) := by
    refine W.newcK C.1.1 C.1.2.1 C.1.2.2.2.1 hclk hin6 hini rfl hd0 (by omega) (by omega) hcX rfl (fun H1 kC hkC e1 z1 o1 => ?_)
    refine lv_dup C.1.1 C.1.2.1 hd3 rfl ?_
    refine va_ldcS C.1.1 C.1.2.1 C.1.2.2.2.1 hZ hd4 ?_
    intro T hT' Xs
    have htr : e.platform.stackTraces = false := by
      rw [Xs.admits.platform]
      exact hst
    cases hkX.symm.trans hkC
    obtain ⟨U, hsteps, hrun, hend, hwarm, hsame, ce, hce, hown⟩ := Xs.ctorThrowS C.1.1 htr (cls := X) (names := th_sup) (ic := ic) C.1.2.2.2.1 hfit (by decide +kernel) hwords (fun x hx => by cases hx) hcX hkX (a := H.size) (by rw [hT']; exact e1) hS.1 (msg := .ref msg) rfl (g := F0 m (pc + 3 + 1 + 2) ls [.ref msg, .ref H.size, .ref H.size]) rfl (hlv.1.trans C.1.2.2.1.symm) rfl rfl (rest := []) rfl (by rw [C.1.2.1]; exact hd6) (by rw [C.1.2.1]; exact hd9) (fun x hx => by
      rw [Array.isEmpty_iff] at hex
      rw [hex] at hx
      cases hx) h3 h4 hlk
    have hk := th_keep hsame
    refine ⟨U, hsteps, .threw H.size, hrun, hend, H.size, rfl, ⟨hW.1.kept (fun k q hkq => ?_), va_K.moved hwarm.alike C.2.1, fw_N.warm hwarm hN⟩, ⟨ce, hce, (fun k h => by rw [hown.vm] at h; cases h), hown.cls⟩, hwarm, hsame⟩
    have hlt := (hW.1 k q hkq).lt
    have hlt2 : q.1 < s.heap.size := Nat.lt_of_lt_of_le hlt hz
    exact (hk q.1 hlt2).trans (hS.2.1 q.1 hlt2 (fun h => h)).symm
  exact w T0 hT0 X0
end FWT
def th_X (t : Nat) : String := match t with
  | 1 => "java/lang/IllegalStateException"
  | 2 => "java/lang/IndexOutOfBoundsException"
  | _ => "java/lang/UnsupportedOperationException"

