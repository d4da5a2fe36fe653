/-! calls that throw, and their catching -/
theorem tn_one {s U : State} {a b : String} (hvm : s.vm.Alike U.vm) (h : (Cond.not (.castable a b)).before #[] s = true) : (Cond.not (.castable a b)).before #[] U = true := by
  have h1 : (Cond.not (.castable a b)).before #[] (s.setVm U.vm) = true := Cond.castAtom_setVm hvm _ rfl h
  exact h1
def tn_T (U : State) : Prop := (Cond.not (.castable "java/lang/IndexOutOfBoundsException" "java/lang/IllegalStateException")).before #[] U = true ∧ (Cond.not (.castable "java/lang/UnsupportedOperationException" "java/lang/IllegalStateException")).before #[] U = true ∧ (Cond.not (.castable "java/lang/UnsupportedOperationException" "java/lang/IndexOutOfBoundsException")).before #[] U = true
theorem tn_T.move {s U : State} (hvm : s.vm.Alike U.vm) (h : tn_T s) : tn_T U := ⟨tn_one hvm h.1, tn_one hvm h.2.1, tn_one hvm h.2.2⟩
theorem th_T.same {s U : State} (hv : s.vm = U.vm) (hh : s.heap = U.heap) (h : th_T s) : th_T U := th_T.move (U := U) (by rw [← hv]; exact State.WarmedH.refl s) (fun q cell h1 _ => by rw [← hh]; exact h1) h
/-- the cell that takes a long -/
def lw_o (aC : Nat → ClassId) (q : Nat) (z : Int64) (H : Heap) : Prop := H[q]? = some (vp_cell (aC 22) (1, .inr (.inl (fun _ => z))))
def fw_preX (D : va_G) (aC : Nat → ClassId) (g : Nat → Nat) (n : Nat) (K : Nat → Nat × Nat) (I : Nat → Nat → Int32) (q : Nat) (z : Int64) (sz : Nat) (av : List Value) : Array Value → State → Prop :=
  va_Pc av (fun U => (U.heap.size = sz ∧ fw_B D aC g n K I U ∧ va_D (fun _ => True) (fw_W g n (fw_M aC g K I))) ∧ th_T U ∧ tn_T U ∧ lw_o aC q z U.heap)
theorem fw_preX_blind {D : va_G} {aC : Nat → ClassId} {g : Nat → Nat} {n : Nat} {K : Nat → Nat × Nat} {I : Nat → Nat → Int32} {q : Nat} {z : Int64} {sz : Nat} {av : List Value} : FrameBlind (fw_preX D aC g n K I q z sz av) := by
  intro a U g' mk x
  obtain ⟨q0, ⟨q1, ⟨qP, qK, qN⟩, qD⟩, qT, qn, qo⟩ := x
  exact ⟨q0, ⟨q1, ⟨qP, va_K.moved (u := U) (U := U.calling g' mk a) (Vm.Alike.refl U.vm) qK, fw_N.same (s := U) (U := U.calling g' mk a) rfl qN⟩, qD⟩, th_T.same (s := U) (U := U.calling g' mk a) rfl rfl qT, tn_T.move (s := U) (U := U.calling g' mk a) (Vm.Alike.refl U.vm) qn, qo⟩
/-- the contract of the law's own add and read -/
def fw_Ax (g : Nat → Nat) (n sz q : Nat) : Nat → Prop := fun x => fw_A g n sz x ∨ x = q
def fw_Mx (l : Launch) (y : MethodName) (ws : List Cond) (rm : Room) (D : va_G) (aC : Nat → ClassId) (g : Nat → Nat) (n : Nat) (K : Nat → Nat × Nat) (I : Nat → Nat → Int32) (q : Nat) (z : Int64) (av : List Value) (Rr : Int32 × (Nat → Nat → Int32) × Int64) : Prop :=
  ∀ sz, Met l y ws rm (fw_preX D aC g n K I q z sz av) (va_Qi (fun r (u : (Nat → Nat → Int32) × Int64) => (r, u) = Rr) (fun u t => fw_B D aC g n K u.1 t ∧ lw_o aC q u.2 t.heap) (fw_Ax g n sz q)) 1 6 (fw_Ax g n sz q)
theorem fw_nost {D : va_G} {aC : Nat → ClassId} {g : Nat → Nat} {n : Nat} {K : Nat → Nat × Nat} {I : Nat → Nat → Int32} {H : Heap} (hP : va_P D fw_cl (fw_W g n (fw_M aC g K I)) H) : ∀ (q : Nat) (cell : Cell), H[q]? = some cell → cell.vm.isStatics = true → ¬ fw_A g n H.size q := by
  intro q cell hc hs h
  rcases h with ⟨k, hk, rfl⟩ | h
  · have h1 := hP k _ (fw_get hk)
    unfold va_at at h1
    dsimp only at h1
    generalize fw_M aC g K I k = E at h1
    cases E with
    | inl a =>
      have h2 : H[g k]? = some (vp_cell a.1 a.2) := h1
      rw [hc] at h2
      cases h2
      unfold vp_cell at hs
      split at hs <;> cases hs
    | inr o =>
      obtain ⟨r, -, cell', g1, -, g3, -⟩ := h1
      rw [hc] at g1
      cases g1
      rw [g3] at hs
      cases hs
  · have := (Array.getElem?_eq_some_iff.mp hc).1
    omega
section FWL
variable {p : Program} {l : Launch} {e : Env} {R : Room} {s : State} {m : MethodId} {args : Array Value} {below : List Frame} {meth : Method} {c : Code} {cells slots : Nat} {Q : State → Prop}
variable {cc bytes : ByteArray} {nL maxL : Nat} {Ts ws ws' : List Cond} {own : String} {D : va_G} {aC : Nat → ClassId} {A : Nat → Prop} {g : Nat → Nat} {n : Nat} {K : Nat → Nat × Nat} {I I2 : Nat → Nat → Int32} {pc pc' : Nat} {lv : List (Nat × Value)} {st st0 As av : List Value} {y : MethodName} {rm : Room} {ret : Option FieldType} {index na : Nat} {X : String}
/-- the world of a walk: a memory, and something beside it -/
abbrev fw_F (p : Program) (l : Launch) (e : Env) (R : Room) (s : State) (m : MethodId) (args : Array Value) (below : List Frame) (meth : Method) (c : Code) (cells slots : Nat) (Q : State → Prop) (nL : Nat) (D : va_G) (aC : Nat → ClassId) (A : Nat → Prop) (g : Nat → Nat) (n : Nat) (K : Nat → Nat × Nat) (I : Nat → Nat → Int32) (P2 : Heap → Prop) (pc : Nat) (lv : List (Nat × Value)) (st : List Value) : Prop :=
  fw_H p l e R s m args below meth c cells slots Q nL A (fun H => fw_Wd D aC A g n K I H ∧ P2 H) pc lv st
/-- P2 stays where nothing but the memory, and what is new, has changed -/
def fw_stays (g : Nat → Nat) (n : Nat) (P2 : Heap → Prop) : Prop := ∀ H H1 : Heap, P2 H → H.size ≤ H1.size → (∀ q, q < H.size → ¬ fw_A g n H.size q → H1[q]? = H[q]?) → P2 H1
theorem fw_ofGx {rt : FieldType} {Rr : Int32 × (Nat → Nat → Int32) × Int64} {hh : List (Nat × Nat × Nat × Nat)} {q : Nat} {z : Int64} (hy : plainName y.cls = true) (hn : ∀ k, (K k).1 < 99 → k < n) (hlen : (lg_sl av).length ≤ maxL) (hw : ws = Cond.codeWith y cc maxL (some rt) hh :: ws')
    (body : ∀ (p : Program) (e : Env) (s : State) (m : MethodId) (args : Array Value) (below : List Frame) (meth : Method) (c : Code) (A : Nat → Prop) (Q : State → Prop), fw_C p m c cc maxL s args ws y.cls D aC n K → fw_N s → th_T s → tn_T s → (∀ x, s.heap.size ≤ x → A x) → A q → (∀ (x : Nat) (cell : Cell), s.heap[x]? = some cell → cell.vm.isStatics = true → ¬ A x) → c.exceptionTable.toList = tableOf hh →
      (∀ (I' : Nat → Nat → Int32) (z' : Int64) (lv : List (Nat × Value)) (v : Int32) (hnv : narrow rt (.int v) = .int v) (pc cells slots : Nat), cells ≤ 1 → slots ≤ 6 → decode cc pc = .ok (.ireturn, 1) → some (v, I', z') = some Rr → fw_F p l e rm s m args below meth c cells slots Q maxL D aC A g n K I' (lw_o aC q z') pc lv [.int v]) → fw_F p l e rm s m args below meth c 0 0 Q maxL D aC A g n K I (lw_o aC q z) 0 (lv_args 0 av) []) : fw_Mx l y ws rm D aC g n K I q z av Rr := by
  intro sz
  refine va_MetW (cc := cc) (maxL := maxL) (ret := (some rt)) (hh := hh) hy hw ?_
  intro p e s m args below meth c s₁ B hml hv
  obtain ⟨rfl, ⟨hsz, ⟨hP, hK, hN⟩, hD0⟩, hT, hn1, ho⟩ := hv
  have hts := atoms_spec (ws := ws) B.pre
  have hown : s.vm.findClass y.cls = some m.cls := findClass_of_methodNamed B.named
  have hlocks := B.notSynchronized
  have hr := B.returns
  subst hsz
  have hD := fw_D_self (sz := s.heap.size) hD0
  have hC : fw_C p m c cc maxL s av.toArray ws y.cls D aC n K := ⟨⟨B.exec, B.bytes, hml, hown, hts⟩, hK, hn⟩
  have htab : c.exceptionTable.toList = tableOf hh := by
    obtain ⟨m9, meth9, c9, hn9, h1, h2, h3, h4, h5, -⟩ := Cond.codeWith_spec (hts (Cond.codeWith y cc maxL (some rt) hh) (by rw [hw]; exact List.mem_cons_self))
    cases B.named.symm.trans hn9
    cases B.method.symm.trans h1
    cases (Stand.of_body B).code.symm.trans h2
    rw [← h5, table_eq]
  have hl := lv_entry av (n := maxL) hlen
  rw [lg_entry_eq]
  refine body p e s m av.toArray below meth c (fw_Ax g n s.heap.size q) _ hC hN hT hn1 (fun x h => Or.inl (Or.inr h)) (Or.inr rfl) (fun x cell h1 h2 h3 => ?_) htab ?_ _ s.heap [] hl ⟨⟨hP, hD.weaken (fun _ _ _ h => Or.inl h)⟩, ho⟩ va_S.rf
  · rcases h3 with h3 | rfl
    · exact fw_nost hP x cell h1 h2 h3
    · have h4 : s.heap[x]? = some (vp_cell (aC 22) (1, .inr (.inl (fun _ => z)))) := ho
      rw [h1] at h4
      cases h4
      cases h2
  · intro I' z' lv v hnv pc cells slots h1 h2 hdg hR ls H locs hl ⟨⟨hP, hD⟩, ho'⟩ hS
    exact fw_widen h1 h2 (W.zret B.exec B.bytes hr hnv (fun t ht hW => ⟨⟨v, (I', z'), rfl, Option.some.inj hR, ⟨by rw [ht]; exact hP, va_K.moved hW.alike hK, fw_N.warm hW hN⟩, by rw [ht]; exact ho'⟩, hS.F ht⟩) hS.2.2 hdg)
/-- a store into the cell that takes a long -/
theorem fx_lastO (C : fw_C p m c cc nL s args Ts own D aC n K) {q : Nat} {z x : Int64} {P1 : Heap → Prop} (hAq : A q) (hP1 : ∀ H H1 : Heap, P1 H → H1.size = H.size → (∀ a, a ≠ q → H1[a]? = H[a]?) → P1 H1) (hdg : decode cc pc = .ok (.lastore, 1)) (hp : pc + 1 = pc')
    (kk : fw_H p l e R s m args below meth c cells slots Q nL A (fun H => P1 H ∧ lw_o aC q x H) pc' lv st) : fw_H p l e R s m args below meth c cells slots Q nL A (fun H => P1 H ∧ lw_o aC q z H) pc lv (.long x :: .int 0 :: .ref q :: st) := by
  subst hp
  intro ls H locs hl ⟨h1, ho⟩ hS
  have ho' : H[q]? = some (arrV (aC 22) 1 (fun _ => .long z)) := ho
  refine W.last C.1.1 C.1.2.1 ho' ((C.2.1.2 2 _ rfl).1 1 (fun _ => .long z)) (fun h => by cases h) (by rw [arrV_size]; decide) rfl rfl hdg (fun H1 e1 z1 o1 => ?_)
  refine kk ls H1 _ hl ⟨hP1 H H1 h1 z1 o1, ?_⟩ (hS.put z1 o1 hAq)
  show H1[q]? = some (arrV (aC 22) 1 (fun _ => .long x))
  rw [e1, arrV_store]
  have h9 : (fun j : Fin 1 => updV (fun _ => Value.long z) ((0 : Int32).toNatClampNeg) (.long x) j.val) = fun _ => Value.long x := by
    funext j
    have hj : j.val = 0 := by omega
    rw [hj]
    rfl
  unfold arrV
  rw [h9]
/-- a call of a method over the memory; P2 stays -/
theorem fx_callVf {P2 : Heap → Prop} {k ci N : Nat} {T : u_T} {Cn : String} {r : Int32} (C : fw_C p m c cc nL s args Ts own D aC n K) (hN : fw_N s) (hA : ∀ q, s.heap.size ≤ q → A q) (h2 : fw_stays g n P2) (hk : (K k).1 = ci) (hc : ci < 20) (hcl : fw_cl[ci]? = some (Cn, T, N)) (hM : fw_Mi l y ws rm D aC g n K I (.ref (g k) :: As) (r, I2)) (cw : CallW R s args own Cn index y bytes maxL ret ws rm 0 0 na) (hcs : cells ≤ R.cells ∧ slots ≤ R.slots) (hna : As.length = na) (hst : st0 = As.reverse ++ .ref (g k) :: st) (hrm : (st.map fun v => v.category).sum ≤ 8) (hdg : decode cc pc = .ok (.invokevirtual index, 3)) (hp : pc + 3 = pc')
    (kk : fw_F p l e R s m args below meth c cells slots Q nL D aC A g n K I2 P2 pc' lv (.int r :: st)) : fw_F p l e R s m args below meth c cells slots Q nL D aC A g n K I P2 pc lv st0 := by
  subst hp
  intro ls H locs hl ⟨⟨hP, hD⟩, hp2⟩ hS
  have hF := fw_free hD hS hA
  refine va_calli (va_runV (As := As) (rest := st) C.1 (hM H.size) cw ⟨fw_pre_blind, va_recv C.2.1 hP hcl (fw_obj C.2.2 hk hc), fun U hU hW => ⟨rfl, by rw [hU], ⟨by rw [hU]; exact hP, va_K.moved hW.alike C.2.1, fw_N.warm hW hN⟩, hD.weaken (fun _ _ _ _ => trivial)⟩⟩ rfl hna hl.1 hst (lv_room hrm) hdg hcs) hS (fun q _ h => hF q h) hF (fun r' u t H1 locs1 ht hvm hw hB hz1 hk1 hS1 => ?_)
  cases hw
  exact kk ls H1 locs1 hl ⟨⟨by rw [← ht]; exact hB.1, fw_D_any hD⟩, h2 H H1 hp2 hz1 hk1⟩ hS1
/-- the callee throws: the row of the table catches it -/
theorem fx_callT {P2 : Heap → Prop} {k ci N : Nat} {T : u_T} {Cn : String} (C : fw_C p m c cc nL s args Ts own D aC n K) (hN : fw_N s) (hT : th_T s) (hsta : ∀ (q : Nat) (cell : Cell), s.heap[q]? = some cell → cell.vm.isStatics = true → ¬ A q) (h2 : fw_stays g n P2) (hk : (K k).1 = ci) (hc : ci < 20) (hcl : fw_cl[ci]? = some (Cn, T, N)) (hM : fw_Mt l y ws rm D aC g n K I I2 (.ref (g k) :: As) X) (cw : CallW R s args own Cn index y bytes maxL ret ws rm 1 6 na) (hcs : 1 ≤ R.cells ∧ 6 ≤ R.slots) (hna : As.length = na) (hst : st0 = As.reverse ++ .ref (g k) :: st) (hrm : (st.map fun v => v.category).sum ≤ 8) (hdg : decode cc pc = .ok (.invokevirtual index, 3))
    (pre : List ExceptionTableEntry) (xe : ExceptionTableEntry) (rest : List ExceptionTableEntry) (hsplit : c.exceptionTable.toList = pre ++ xe :: rest) (hpass : ∀ z ∈ pre, ∃ name, z.catchType ≠ 0 ∧ (Cond.classLink own z.catchType name).before args s = true ∧ (Cond.not (.castable X name)).before args s = true) (hx : covers xe pc = true) (h0 : xe.catchType ≠ 0) (hlink : (Cond.classLink own xe.catchType X).before args s = true) (hcast : (Cond.castable X X).before args s = true)
    (kk : ∀ x, fw_F p l e R s m args below meth c 1 6 Q nL D aC A g n K I2 P2 xe.handlerPc lv [.ref x]) : fw_F p l e R s m args below meth c 0 0 Q nL D aC A g n K I P2 pc lv st0 := by
  intro ls H locs hl ⟨⟨hP, hD⟩, hp2⟩ hS T0 hT0 X0
  obtain ⟨⟨hrc, hrs, hfr, hlo, hws, hcw, hcode, hini, hy, hlen, hlk⟩, hin, hse⟩ := cw
  obtain ⟨cellB, hcB, hoB, hclB⟩ := va_recv C.2.1 hP hcl (fw_obj C.2.2 hk hc)
  obtain ⟨mk, methM, hnamed, hmethM, hstM, habM⟩ := Cond.instanceMethod_spec hin
  obtain ⟨methM', cM, hmethM', -, -, -, -, -, -, hsigM⟩ := Cond.code_spec hnamed hcode
  cases hmethM.symm.trans hmethM'
  obtain ⟨c2, r2, m2, q1, q2, q3, q4, kP, hkP, hkPi⟩ := Cond.selects_spec hse
  have q1' : s.vm.findClass Cn = some c2 := q1
  cases hclB.symm.trans q1'
  cases (State.methodFound?_of_named hnamed hy).symm.trans q2
  cases hnamed.symm.trans q3
  have hselP : selectMethod e.platform s.vm cellB.cls mk = .method mk := by rw [Launch.admits_selectMethod X0.admits]; exact q4
  obtain ⟨vm₁, X₁, hstep₁⟩ := X0.invokevirtual C.1.1 C.1.2.2.2.1 hlk hnamed hmethM hstM hkP hkPi hy (a := g k) (cell := cellB) (by rw [hT0]; exact hcB) (fun z h => by rw [h] at hoB; cases hoB) hselP hmethM habM hkP hkPi (g := F0 m pc ls st0) rfl (argsL := As) (rest := st) (hna.trans (hlen _ hsigM)) hst (by rw [C.1.2.1]; exact hdg)
  have hU : (T0.setVm vm₁).heap = H := hT0
  generalize hUe : T0.setVm vm₁ = U at X₁ hstep₁ hU
  have h : At U m c below := X₁.here
  have hn1 := X₁.named hnamed
  have hw1 : ∀ w ∈ ws, w.before (Value.ref (g k) :: As).toArray U = true := fun w hw => hws w hw _ U X₁.warmed
  obtain ⟨methY, cY, hmY, hcY, -, hlY, -, -, -, -⟩ := Cond.code_spec hn1 (hw1 _ hcw)
  obtain ⟨kY, hkY, -⟩ := className_of_methodNamed hn1
  have hini1 : (Cond.initialized y.cls).before (Value.ref (g k) :: As).toArray U = true := word_at X₁.warmed (Or.inl (by first | rfl | simp [Cond.onTables, Cond.keeps, Cond.steady])) hini
  have hinitY : kY.init = .initialized := Cond.initialized_spec (findClass_of_methodNamed hn1) hkY hini1
  have happ : (headSpec ws rm).appliesLoose y e.platform (U.calling (F0 m pc ls st) mk (Value.ref (g k) :: As).toArray) = true :=
    Spec.appliesLoose_calling (g := F0 m pc ls st) h (by rw [C.1.2.1]; exact hdg) hn1 hkY hinitY
      (X₁.room_calling (g := F0 m pc ls st) (R' := rm) (hl.1.trans C.1.2.2.1.symm) hmY hcY hfr (by
        rw [hlY]
        have h9 : 2 * (F0 m pc ls st).monitorRoom + (st.map fun v => v.category).sum ≤ 8 := lv_room hrm
        show 2 * (F0 m pc ls st).monitorRoom + (st.map fun v => v.category).sum + (maxL + 11) + rm.locals ≤ R.locals
        omega) (by rw [hrc]; omega) (by rw [hrs]; omega)) (atoms_intro hw1)
  obtain ⟨mid, hmid⟩ := h.above
  have hfr2 : (U.setTop (F0 m pc ls st)).frames = (.java (F0 m pc ls st) :: mid) ++ below := by rw [State.frames_setTop' (F0 m pc ls st) h.top, hmid]; rfl
  have hH1 : ∀ (q : Nat) (cell : Cell), s.heap[q]? = some cell → cell.vm.isStatics = true → H[q]? = some cell := fun q cell h1 h2 => (hS.2.1 q (Array.getElem?_eq_some_iff.mp h1).1 (hsta q cell h1 h2)).trans h1
  have hTU : th_T U := th_T.move X₁.warmed (fun q cell h1 h2 => by rw [hU]; exact hH1 q cell h1 h2) hT
  obtain ⟨o, s₂, hsteps, -, hend, hq⟩ := Steps.callFree hM p X₁.admits X₁.cas X₁.clock (acts := []) hfr2 happ ⟨rfl, ⟨by
    show va_P _ _ _ U.heap
    rw [hU]
    exact hP, va_K.moved (U := U.calling (F0 m pc ls st) mk (Value.ref (g k) :: As).toArray) X₁.warmed.alike C.2.1, fw_N.same (s := U) (U := U.calling (F0 m pc ls st) mk (Value.ref (g k) :: As).toArray) rfl (fw_N.warm X₁.warmed hN)⟩, hD.weaken (fun _ _ _ _ => trivial), th_T.same (s := U) (U := U.calling (F0 m pc ls st) mk (Value.ref (g k) :: As).toArray) rfl rfl hTU⟩ trivial
  rw [State.frames_setTop' (F0 m pc ls st) h.top] at hend
  obtain ⟨g₀, hr0⟩ := X₁.frames_eq
  rw [hr0, List.tail_cons] at hend
  have hq' : fw_Qt D aC g n K I2 X (U.calling (F0 m pc ls st) mk (Value.ref (g k) :: As).toArray) o s₂ := hq
  obtain ⟨x, rfl, hB, ⟨ce, hce, hst0, hcX⟩, hW2, hsame⟩ := hq'
  obtain ⟨T', X', hW', hsame', ht⟩ := X₁.outOfThrown (g := F0 m pc ls st) rfl (mk := mk) (a := (Value.ref (g k) :: As).toArray) (x := x) hend hW2 hsame
  have hheap : s₂.heap = T'.heap := by rw [ht]; exact Stand.throwing_heap _ _ _
  have hcome : Steps p.tables e below (T0.setTop (F0 m pc ls st0)) ((T'.setTop (F0 m pc ls st)).pushFrame (.throwing x)) := hstep₁ _ fun acts => by rw [doInvoke_state, ← ht]; exact hsteps
  obtain ⟨c3, cT, hc3, hcT, hasg⟩ := Cond.castable_spec hcast
  have hcX' : s.vm.findClass X = some ce.cls := by
    have h1 : U.vm.findClass X = some ce.cls := hcX
    rw [X₁.warmed.alike.findClass] at h1
    exact h1
  cases hcX'.symm.trans hc3
  obtain ⟨hendR, hk0⟩ := X'.catches_of_link C.1.2.2.2.1 h0 hlink hcT hasg
  have hpl : e.platform.magicAccessors = ({} : Platform).magicAccessors := by rw [X'.admits.platform]
  obtain ⟨vm', XV, stV⟩ := X'.thenCaughtThrough x (g := F0 m pc ls st) rfl hcome (cell := ce) (by rw [← hheap]; exact hce) (by
    cases hv : ce.vm <;> first | rfl | exact absurd hv (hst0 _)) hk0 pre xe rest hsplit (fun z hz => by
    obtain ⟨nm, z1, z2, z3⟩ := hpass z hz
    exact RowPassed.of_words hpl C.1.2.2.2.1 z1 z2 hcX' z3) hx hendR
  rw [List.append_nil] at XV
  have hkeep := th_keep hsame
  have hsz2 : H.size ≤ T'.heap.size := by
    rw [← hheap, ← hU]
    exact hsame.2.1
  obtain ⟨t, a1, b1⟩ := kk x ls T'.heap locs hl ⟨⟨by rw [← hheap]; exact hB.1, fw_D_any hD⟩, h2 H T'.heap hp2 hsz2 (fun q h1 _ => by
    have h3 : s₂.heap[q]? = U.heap[q]? := hkeep q (by
      show q < U.heap.size
      rw [hU]
      exact h1)
    rw [← hheap, h3, hU])⟩ ⟨Nat.le_trans hS.1 hsz2, fun q h1 h2 => by
    have h3 : s₂.heap[q]? = U.heap[q]? := hkeep q (by
      show q < U.heap.size
      rw [hU]
      exact Nat.lt_of_lt_of_le h1 hS.1)
    rw [← hheap, h3, hU]
    exact hS.2.1 q h1 h2, hS.2.2⟩ (T'.setVm vm') rfl XV
  exact ⟨t, stV.trans a1, b1⟩
end FWL
theorem lw_o_stays {aC : Nat → ClassId} {g : Nat → Nat} {n q : Nat} {z : Int64} (hqn : ∀ k, k < n → g k ≠ q) : fw_stays g n (lw_o aC q z) := by
  intro H H1 h hz hk
  have h1 : H[q]? = some (vp_cell (aC 22) (1, .inr (.inl (fun _ => z)))) := h
  have h2 := (Array.getElem?_eq_some_iff.mp h1).1
  refine (hk q h2 ?_).trans h1
  intro h3
  rcases h3 with ⟨k, hk, rfl⟩ | h3
  · exact hqn k hk rfl
  · omega
theorem lw_Wd_set {D : va_G} {aC : Nat → ClassId} {A : Nat → Prop} {g : Nat → Nat} {n q : Nat} {K : Nat → Nat × Nat} {I : Nat → Nat → Int32} (hqn : ∀ k, k < n → g k ≠ q) : ∀ H H1 : Heap, fw_Wd D aC A g n K I H → H1.size = H.size → (∀ a, a ≠ q → H1[a]? = H[a]?) → fw_Wd D aC A g n K I H1 := by
  intro H H1 h _ ho
  refine ⟨h.1.kept (fun k x hx => ?_), h.2⟩
  obtain ⟨hk, rfl⟩ := fw_at hx
  exact ho _ (hqn k hk)

