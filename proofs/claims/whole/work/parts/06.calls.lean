/-! the words: those of the tables that any later state keeps -/
theorem fw_gw {a : Cond} {L : List Cond} (h : ∀ w ∈ L, w ∈ fw_ws) : GoodIn (a :: fw_ws) L := fun w hw => ⟨List.mem_cons_of_mem _ (h w hw), good_of_word (List.mem_filter.mp (h w hw)).2⟩
theorem fw_gN {a b : Cond} (h : b ∈ fw_ws) : GoodIn (a :: fw_ws) (b :: fw_ws) := fw_gw (fun w hw => by
  rcases List.mem_cons.mp hw with rfl | hw
  · exact h
  · exact hw)
theorem fw_gS {a b : Cond} {own : String} {idx : Nat} {y : MethodName} (h1 : Cond.methodLink own idx y ∈ fw_ws) (h2 : Cond.static y ∈ fw_ws) (h3 : Cond.initialized y.cls ∈ fw_ws) (h4 : b ∈ fw_ws) : GoodIn (a :: fw_ws) (va_wsS own idx y (b :: fw_ws)) := fw_gw (fun w hw => by
  unfold va_wsS at hw
  rcases List.mem_append.mp hw with h | h
  · simp only [List.mem_cons, List.not_mem_nil, or_false] at h
    rcases h with rfl | rfl | rfl
    · exact h1
    · exact h2
    · exact h3
  · rcases List.mem_cons.mp h with rfl | h
    · exact h4
    · exact h)
theorem fw_gV {a b : Cond} {own C : String} {idx : Nat} {y : MethodName} (h1 : Cond.methodLink own idx y ∈ fw_ws) (h2 : Cond.instanceMethod y ∈ fw_ws) (h3 : Cond.selects C y y ∈ fw_ws) (h4 : Cond.initialized C ∈ fw_ws) (h5 : b ∈ fw_ws) : GoodIn (a :: fw_ws) (wsV own idx C y (b :: fw_ws)) := fw_gw (fun w hw => by
  unfold wsV at hw
  rcases List.mem_append.mp hw with h | h
  · simp only [List.mem_cons, List.not_mem_nil, or_false] at h
    rcases h with rfl | rfl | rfl | rfl
    · exact h1
    · exact h2
    · exact h3
    · exact h4
  · rcases List.mem_cons.mp h with rfl | h
    · exact h5
    · exact h)
theorem fw_N_warm {w : Cond} (hw : fw_isN w = true) {s U : State} (hW : s.WarmedH U.vm) (h : va_Nw w s) : va_Nw w U := by
  cases w <;> first | (simp [fw_isN] at hw; done) | exact va_Nw.warmF hW h | exact va_Nw.warmM hW h | exact va_Nw.warmD hW h | exact va_Nw.warmC hW h
theorem fw_N_same {w : Cond} (hw : fw_isN w = true) {s U : State} (hv : s.vm = U.vm) (h : va_Nw w s) : va_Nw w U := by
  cases w <;> first | (simp [fw_isN] at hw; done) | exact va_Nw.same rfl hv h
/-- the links to members of nest mates -/
def fw_N (U : State) : Prop := (∀ w ∈ fw_nest, va_Nw w U) ∧ va_AO "FencedLedger$Store" U ∧ va_AO "FencedLedger$Message" U ∧ va_AO "FencedLedger$Recoverer" U
theorem fw_N.warm {s U : State} (hW : s.WarmedH U.vm) (h : fw_N s) : fw_N U := ⟨fun w hw => fw_N_warm (List.mem_filter.mp hw).2 hW (h.1 w hw), h.2.1.moved hW.alike, h.2.2.1.moved hW.alike, h.2.2.2.moved hW.alike⟩
theorem fw_N.same {s U : State} (hv : s.vm = U.vm) (h : fw_N s) : fw_N U := ⟨fun w hw => fw_N_same (List.mem_filter.mp hw).2 hv (h.1 w hw), h.2.1.moved (hv ▸ Vm.Alike.refl s.vm), h.2.2.1.moved (hv ▸ Vm.Alike.refl s.vm), h.2.2.2.moved (hv ▸ Vm.Alike.refl s.vm)⟩
/-- the memory I lies in the state U -/
def fw_B (D : va_G) (aC : Nat → ClassId) (g : Nat → Nat) (n : Nat) (K : Nat → Nat × Nat) (I : Nat → Nat → Int32) (U : State) : Prop :=
  va_P D fw_cl (fw_W g n (fw_M aC g K I)) U.heap ∧ va_K D fw_cl (fw_tys aC) U ∧ fw_N U
def fw_A (g : Nat → Nat) (n sz : Nat) : Nat → Prop := fun q => (∃ k, k < n ∧ q = g k) ∨ sz ≤ q
def fw_pre (D : va_G) (aC : Nat → ClassId) (g : Nat → Nat) (n : Nat) (K : Nat → Nat × Nat) (I : Nat → Nat → Int32) (sz : Nat) (av : List Value) : Array Value → State → Prop :=
  va_Pc av (fun U => U.heap.size = sz ∧ fw_B D aC g n K I U ∧ va_D (fun _ => True) (fw_W g n (fw_M aC g K I)))
theorem fw_D_any {A : Nat → Prop} {g : Nat → Nat} {n : Nat} {M M' : Nat → va_E} (h : va_D A (fw_W g n M)) : va_D A (fw_W g n M') := by
  refine ⟨fun i j x y hi hj hxy => ?_, fun k q hk => ?_⟩
  · obtain ⟨li, rfl⟩ := fw_at hi
    obtain ⟨lj, rfl⟩ := fw_at hj
    exact h.1 i j _ _ (fw_get li) (fw_get lj) hxy
  · obtain ⟨lk, rfl⟩ := fw_at hk
    exact h.2 k (g k, M k) (fw_get lk)
theorem fw_D_self {A : Nat → Prop} {g : Nat → Nat} {n sz : Nat} {M : Nat → va_E} (h : va_D A (fw_W g n M)) : va_D (fw_A g n sz) (fw_W g n M) :=
  ⟨h.1, fun k q hk => by obtain ⟨lk, rfl⟩ := fw_at hk; exact Or.inl ⟨k, lk, rfl⟩⟩
theorem fw_free {A : Nat → Prop} {g : Nat → Nat} {n : Nat} {M : Nat → va_E} {H0 H : Heap} {locs : List Loc} (hD : va_D A (fw_W g n M)) (hS : va_S A H0 H locs) (hA : ∀ q, H0.size ≤ q → A q) : ∀ q, fw_A g n H.size q → A q := by
  intro q h
  rcases h with ⟨k, hk, rfl⟩ | h
  · exact hD.2 k _ (fw_get hk)
  · exact hA q (Nat.le_trans hS.1 h)
theorem fw_pre_blind {D : va_G} {aC : Nat → ClassId} {g : Nat → Nat} {n : Nat} {K : Nat → Nat × Nat} {I : Nat → Nat → Int32} {sz : Nat} {av : List Value} : FrameBlind (fw_pre D aC g n K I sz av) := by
  intro a U g' mk q
  obtain ⟨q0, q1, ⟨qP, qK, qN⟩, qD⟩ := q
  exact ⟨q0, q1, ⟨qP, va_K.moved (u := U) (U := U.calling g' mk a) (Vm.Alike.refl U.vm) qK, fw_N.same (s := U) (U := U.calling g' mk a) rfl qN⟩, qD⟩
/-- the contracts: over the memory I the method answers Rr (its answer and the memory behind it) -/
def fw_Mi (l : Launch) (y : MethodName) (ws : List Cond) (rm : Room) (D : va_G) (aC : Nat → ClassId) (g : Nat → Nat) (n : Nat) (K : Nat → Nat × Nat) (I : Nat → Nat → Int32) (av : List Value) (Rr : Int32 × (Nat → Nat → Int32)) : Prop :=
  ∀ sz, Met l y ws rm (fw_pre D aC g n K I sz av) (va_Qi (fun r u => (r, u) = Rr) (fun u t => fw_B D aC g n K u t) (fw_A g n sz)) 0 0 (fw_A g n sz)
def fw_Mv (l : Launch) (y : MethodName) (ws : List Cond) (rm : Room) (D : va_G) (aC : Nat → ClassId) (g : Nat → Nat) (n : Nat) (K : Nat → Nat × Nat) (I : Nat → Nat → Int32) (av : List Value) (Rr : Nat → Nat → Int32) : Prop :=
  ∀ sz, Met l y ws rm (fw_pre D aC g n K I sz av) (va_Qv (fun u => u = Rr) (fun u t => fw_B D aC g n K u t) (fw_A g n sz)) 0 0 (fw_A g n sz)
def fw_Mr (l : Launch) (y : MethodName) (ws : List Cond) (rm : Room) (D : va_G) (aC : Nat → ClassId) (g : Nat → Nat) (n : Nat) (K : Nat → Nat × Nat) (I : Nat → Nat → Int32) (av : List Value) (Rr : Int32 × (Nat → Nat → Int32)) : Prop :=
  ∀ sz, Met l y ws rm (fw_pre D aC g n K I sz av) (va_Qr (fun u => u = Rr.2) (fun u a t => a = g Rr.1.toNatClampNeg ∧ fw_B D aC g n K u t) (fw_A g n sz)) 0 0 (fw_A g n sz)

section FWH
variable {p : Program} {l : Launch} {e : Env} {R : Room} {s : State} {m : MethodId} {args : Array Value} {below : List Frame} {meth : Method} {c : Code} {cells slots : Nat} {Q : State → Prop}
variable {cc bytes : ByteArray} {nL maxL : Nat} {Ts ws ws' : List Cond} {own : String} {D : va_G} {aC : Nat → ClassId} {A : Nat → Prop} {g : Nat → Nat} {n : Nat} {K : Nat → Nat × Nat} {I I2 : Nat → Nat → Int32} {pc : Nat} {lv : List (Nat × Value)} {st st0 As av : List Value} {y : MethodName} {rm : Room} {ret : Option FieldType} {index na : Nat}

theorem fw_ofGi {rt : FieldType} {Rr : Int32 × (Nat → Nat → Int32)} (hy : plainName y.cls = true) (hn : ∀ k, (K k).1 < 99 → k < n) (hlen : (lg_sl av).length ≤ maxL) (hw : ws = Cond.code y cc maxL (some rt) :: ws')
    (body : ∀ (p : Program) (e : Env) (s : State) (m : MethodId) (args : Array Value) (below : List Frame) (meth : Method) (c : Code) (A : Nat → Prop) (Q : State → Prop), fw_C p m c cc maxL s args ws y.cls D aC n K → fw_N s → (∀ q, s.heap.size ≤ q → A q) → (∀ (I' : Nat → Nat → Int32) (lv : List (Nat × Value)) (v : Int32) (hnv : narrow rt (.int v) = .int v) (pc : Nat), decode cc pc = .ok (.ireturn, 1) → some (v, I') = some Rr → fw_G p l e rm s m args below meth c 0 0 Q maxL D aC A g n K I' (pc) lv ([.int v])) → fw_G p l e rm s m args below meth c 0 0 Q maxL D aC A g n K I (0) (lv_args 0 av) ([])) : fw_Mi l y ws rm D aC g n K I av Rr := by
  intro sz
  refine Met.ofW (cc := cc) (maxL := maxL) (ret := (some rt)) hy hw ?_
  intro p e s m args below meth c s₁ B hml hv
  obtain ⟨rfl, hsz, ⟨hP, hK, hN⟩, hD0⟩ := hv
  have hts := atoms_spec (ws := ws) B.pre
  have hown : s.vm.findClass y.cls = some m.cls := findClass_of_methodNamed B.named
  have hlocks := B.notSynchronized
  have hr := B.returns
  subst hsz
  have hD := fw_D_self (sz := s.heap.size) hD0
  have hC : fw_C p m c cc maxL s av.toArray ws y.cls D aC n K := ⟨⟨B.exec, B.bytes, hml, hown, hts⟩, hK, hn⟩
  have hl := lv_entry av (n := maxL) hlen
  rw [lg_entry_eq]
  refine body p e s m av.toArray below meth c (fw_A g n s.heap.size) _ hC hN (fun q h => Or.inr h) ?_ _ s.heap [] hl ⟨hP, hD⟩ va_S.rf
  intro I' lv v hnv pc hdg hR ls H locs hl ⟨hP, hD⟩ hS
  exact W.zret B.exec B.bytes hr hnv (fun t ht hW => ⟨⟨v, I', rfl, Option.some.inj hR, ⟨by rw [ht]; exact hP, va_K.moved hW.alike hK, fw_N.warm hW hN⟩⟩, hS.F ht⟩) hS.2.2 hdg

theorem fw_ofGiF {rt : FieldType} {Rr : Int32 × (Nat → Nat → Int32)} (hy : plainFor y = true) (hn : ∀ k, (K k).1 < 99 → k < n) (hlen : (lg_sl av).length ≤ maxL) (hw : ws = Cond.code y cc maxL (some rt) :: ws')
    (body : ∀ (p : Program) (e : Env) (s : State) (m : MethodId) (args : Array Value) (below : List Frame) (meth : Method) (c : Code) (A : Nat → Prop) (Q : State → Prop), fw_C p m c cc maxL s args ws y.cls D aC n K → fw_N s → (∀ q, s.heap.size ≤ q → A q) → (∀ (I' : Nat → Nat → Int32) (lv : List (Nat × Value)) (v : Int32) (hnv : narrow rt (.int v) = .int v) (pc : Nat), decode cc pc = .ok (.ireturn, 1) → some (v, I') = some Rr → fw_G p l e rm s m args below meth c 0 0 Q maxL D aC A g n K I' (pc) lv ([.int v])) → fw_G p l e rm s m args below meth c 0 0 Q maxL D aC A g n K I (0) (lv_args 0 av) ([])) : fw_Mi l y ws rm D aC g n K I av Rr := by
  intro sz
  refine va_MetF (cc := cc) (maxL := maxL) (ret := (some rt)) hy hw ?_
  intro p e s m args below meth c s₁ B hml hv
  obtain ⟨rfl, hsz, ⟨hP, hK, hN⟩, hD0⟩ := hv
  have hts := atoms_spec (ws := ws) B.pre
  have hown : s.vm.findClass y.cls = some m.cls := findClass_of_methodNamed B.named
  have hlocks := B.notSynchronized
  have hr := B.returns
  subst hsz
  have hD := fw_D_self (sz := s.heap.size) hD0
  have hC : fw_C p m c cc maxL s av.toArray ws y.cls D aC n K := ⟨⟨B.exec, B.bytes, hml, hown, hts⟩, hK, hn⟩
  have hl := lv_entry av (n := maxL) hlen
  rw [lg_entry_eq]
  refine body p e s m av.toArray below meth c (fw_A g n s.heap.size) _ hC hN (fun q h => Or.inr h) ?_ _ s.heap [] hl ⟨hP, hD⟩ va_S.rf
  intro I' lv v hnv pc hdg hR ls H locs hl ⟨hP, hD⟩ hS
  exact W.zret B.exec B.bytes hr hnv (fun t ht hW => ⟨⟨v, I', rfl, Option.some.inj hR, ⟨by rw [ht]; exact hP, va_K.moved hW.alike hK, fw_N.warm hW hN⟩⟩, hS.F ht⟩) hS.2.2 hdg

theorem fw_ofGv {Rr : Nat → Nat → Int32} (hy : plainName y.cls = true) (hn : ∀ k, (K k).1 < 99 → k < n) (hlen : (lg_sl av).length ≤ maxL) (hw : ws = Cond.code y cc maxL none :: ws')
    (body : ∀ (p : Program) (e : Env) (s : State) (m : MethodId) (args : Array Value) (below : List Frame) (meth : Method) (c : Code) (A : Nat → Prop) (Q : State → Prop), fw_C p m c cc maxL s args ws y.cls D aC n K → fw_N s → (∀ q, s.heap.size ≤ q → A q) → (∀ (I' : Nat → Nat → Int32) (lv : List (Nat × Value)) (pc : Nat), decode cc pc = .ok (.return_, 1) → some I' = some Rr → fw_G p l e rm s m args below meth c 0 0 Q maxL D aC A g n K I' (pc) lv ([])) → fw_G p l e rm s m args below meth c 0 0 Q maxL D aC A g n K I (0) (lv_args 0 av) ([])) : fw_Mv l y ws rm D aC g n K I av Rr := by
  intro sz
  refine Met.ofW (cc := cc) (maxL := maxL) (ret := none) hy hw ?_
  intro p e s m args below meth c s₁ B hml hv
  obtain ⟨rfl, hsz, ⟨hP, hK, hN⟩, hD0⟩ := hv
  have hts := atoms_spec (ws := ws) B.pre
  have hown : s.vm.findClass y.cls = some m.cls := findClass_of_methodNamed B.named
  have hlocks := B.notSynchronized
  have hr := B.returns
  subst hsz
  have hD := fw_D_self (sz := s.heap.size) hD0
  have hC : fw_C p m c cc maxL s av.toArray ws y.cls D aC n K := ⟨⟨B.exec, B.bytes, hml, hown, hts⟩, hK, hn⟩
  have hl := lv_entry av (n := maxL) hlen
  rw [lg_entry_eq]
  refine body p e s m av.toArray below meth c (fw_A g n s.heap.size) _ hC hN (fun q h => Or.inr h) ?_ _ s.heap [] hl ⟨hP, hD⟩ va_S.rf
  intro I' lv pc hdg hR ls H locs hl ⟨hP, hD⟩ hS
  exact W.vret B.exec B.bytes hr (fun t ht hW => ⟨⟨I', rfl, Option.some.inj hR, ⟨by rw [ht]; exact hP, va_K.moved hW.alike hK, fw_N.warm hW hN⟩⟩, hS.F ht⟩) hS.2.2 hdg

theorem fw_ofGr {rt : String} {Rr : Int32 × (Nat → Nat → Int32)} (hy : plainName y.cls = true) (hn : ∀ k, (K k).1 < 99 → k < n) (hlen : (lg_sl av).length ≤ maxL) (hw : ws = Cond.code y cc maxL (some (.object rt)) :: ws')
    (body : ∀ (p : Program) (e : Env) (s : State) (m : MethodId) (args : Array Value) (below : List Frame) (meth : Method) (c : Code) (A : Nat → Prop) (Q : State → Prop), fw_C p m c cc maxL s args ws y.cls D aC n K → fw_N s → (∀ q, s.heap.size ≤ q → A q) → (∀ (I' : Nat → Nat → Int32) (lv : List (Nat × Value)) (x : Int32) (pc : Nat), decode cc pc = .ok (.areturn, 1) → some (x, I') = some Rr → fw_G p l e rm s m args below meth c 0 0 Q maxL D aC A g n K I' (pc) lv ([.ref (g x.toNatClampNeg)])) → fw_G p l e rm s m args below meth c 0 0 Q maxL D aC A g n K I (0) (lv_args 0 av) ([])) : fw_Mr l y ws rm D aC g n K I av Rr := by
  intro sz
  refine Met.ofW (cc := cc) (maxL := maxL) (ret := (some (.object rt))) hy hw ?_
  intro p e s m args below meth c s₁ B hml hv
  obtain ⟨rfl, hsz, ⟨hP, hK, hN⟩, hD0⟩ := hv
  have hts := atoms_spec (ws := ws) B.pre
  have hown : s.vm.findClass y.cls = some m.cls := findClass_of_methodNamed B.named
  have hlocks := B.notSynchronized
  have hr := B.returns
  subst hsz
  have hD := fw_D_self (sz := s.heap.size) hD0
  have hC : fw_C p m c cc maxL s av.toArray ws y.cls D aC n K := ⟨⟨B.exec, B.bytes, hml, hown, hts⟩, hK, hn⟩
  have hl := lv_entry av (n := maxL) hlen
  rw [lg_entry_eq]
  refine body p e s m av.toArray below meth c (fw_A g n s.heap.size) _ hC hN (fun q h => Or.inr h) ?_ _ s.heap [] hl ⟨hP, hD⟩ va_S.rf
  intro I' lv x pc hdg hR ls H locs hl ⟨hP, hD⟩ hS
  exact W.aret B.exec B.bytes hr (Or.inl ⟨_, rfl⟩) (Or.inr ⟨_, rfl⟩) (fun t ht hW => ⟨⟨I', g x.toNatClampNeg, rfl, by rw [← Option.some.inj hR], by rw [← Option.some.inj hR], ⟨by rw [ht]; exact hP, va_K.moved hW.alike hK, fw_N.warm hW hN⟩⟩, hS.F ht⟩) hS.2.2 hdg

end FWH
section FWX
variable {p : Program} {l : Launch} {e : Env} {R : Room} {s : State} {m : MethodId} {args : Array Value} {below : List Frame} {meth : Method} {c : Code} {cells slots : Nat} {Q : State → Prop}
variable {cc bytes : ByteArray} {nL maxL : Nat} {Ts ws ws' : List Cond} {own : String} {D : va_G} {aC : Nat → ClassId} {A : Nat → Prop} {g : Nat → Nat} {n : Nat} {K : Nat → Nat × Nat} {I I2 : Nat → Nat → Int32} {pc : Nat} {lv : List (Nat × Value)} {st st0 As av : List Value} {y : MethodName} {rm : Room} {ret : Option FieldType} {index na : Nat}

theorem fx_callVi (C : fw_C p m c cc nL s args Ts own D aC n K) {pc' : Nat} (hN : fw_N s) (hA : ∀ q, s.heap.size ≤ q → A q) {k ci N : Nat} {T : u_T} {Cn : String} (hk : (K k).1 = ci) (hc : ci < 20) (hcl : fw_cl[ci]? = some (Cn, T, N)) {r : Int32} (hM : fw_Mi l y ws rm D aC g n K I (.ref (g k) :: As) (r, I2)) (cw : CallW R s args own Cn index y bytes maxL ret ws rm 0 0 na) (hcs : cells ≤ R.cells ∧ slots ≤ R.slots) (hna : As.length = na) (hst : st0 = As.reverse ++ .ref (g k) :: st) (hrm : (st.map fun v => v.category).sum ≤ 8) (hdg : decode cc pc = .ok (.invokevirtual index, 3)) (hp : pc + 3 = pc')
    (kk : fw_G p l e R s m args below meth c cells slots Q nL D aC A g n K I2 (pc') lv (.int r :: st)) : fw_G p l e R s m args below meth c cells slots Q nL D aC A g n K I (pc) lv (st0) := by
  subst hp
  intro ls H locs hl ⟨hP, hD⟩ hS
  have hF := fw_free hD hS hA
  refine va_calli (va_runV (As := As) (rest := st) C.1 (hM H.size) cw ⟨fw_pre_blind, va_recv C.2.1 hP hcl (fw_obj C.2.2 hk hc), fun U hU hW => ⟨rfl, by rw [hU], ⟨by rw [hU]; exact hP, va_K.moved hW.alike C.2.1, fw_N.warm hW hN⟩, hD.weaken (fun _ _ _ _ => trivial)⟩⟩ rfl hna hl.1 hst (lv_room hrm) hdg hcs) hS (fun q _ h => hF q h) hF (fun r' u t H1 locs1 ht hvm hw hB hz1 hk1 hS1 => ?_)
  cases hw
  exact kk ls H1 locs1 hl ⟨by rw [← ht]; exact hB.1, fw_D_any hD⟩ hS1
theorem fx_callVv (C : fw_C p m c cc nL s args Ts own D aC n K) {pc' : Nat} (hN : fw_N s) (hA : ∀ q, s.heap.size ≤ q → A q) {k ci N : Nat} {T : u_T} {Cn : String} (hk : (K k).1 = ci) (hc : ci < 20) (hcl : fw_cl[ci]? = some (Cn, T, N)) (hM : fw_Mv l y ws rm D aC g n K I (.ref (g k) :: As) I2) (cw : CallW R s args own Cn index y bytes maxL ret ws rm 0 0 na) (hcs : cells ≤ R.cells ∧ slots ≤ R.slots) (hna : As.length = na) (hst : st0 = As.reverse ++ .ref (g k) :: st) (hrm : (st.map fun v => v.category).sum ≤ 8) (hdg : decode cc pc = .ok (.invokevirtual index, 3)) (hp : pc + 3 = pc')
    (kk : fw_G p l e R s m args below meth c cells slots Q nL D aC A g n K I2 (pc') lv (st)) : fw_G p l e R s m args below meth c cells slots Q nL D aC A g n K I (pc) lv (st0) := by
  subst hp
  intro ls H locs hl ⟨hP, hD⟩ hS
  have hF := fw_free hD hS hA
  refine va_callv (va_runV (As := As) (rest := st) C.1 (hM H.size) cw ⟨fw_pre_blind, va_recv C.2.1 hP hcl (fw_obj C.2.2 hk hc), fun U hU hW => ⟨rfl, by rw [hU], ⟨by rw [hU]; exact hP, va_K.moved hW.alike C.2.1, fw_N.warm hW hN⟩, hD.weaken (fun _ _ _ _ => trivial)⟩⟩ rfl hna hl.1 hst (lv_room hrm) hdg hcs) hS (fun q _ h => hF q h) hF (fun u t H1 locs1 ht hvm hw hB hz1 hk1 hS1 => ?_)
  cases hw
  exact kk ls H1 locs1 hl ⟨by rw [← ht]; exact hB.1, fw_D_any hD⟩ hS1
theorem fx_callVr (C : fw_C p m c cc nL s args Ts own D aC n K) {pc' : Nat} (hN : fw_N s) (hA : ∀ q, s.heap.size ≤ q → A q) {k ci N : Nat} {T : u_T} {Cn : String} (hk : (K k).1 = ci) (hc : ci < 20) (hcl : fw_cl[ci]? = some (Cn, T, N)) {r : Int32} {a : Nat} (ha : r.toNatClampNeg = a) (hM : fw_Mr l y ws rm D aC g n K I (.ref (g k) :: As) (r, I2)) (cw : CallW R s args own Cn index y bytes maxL ret ws rm 0 0 na) (hcs : cells ≤ R.cells ∧ slots ≤ R.slots) (hna : As.length = na) (hst : st0 = As.reverse ++ .ref (g k) :: st) (hrm : (st.map fun v => v.category).sum ≤ 8) (hdg : decode cc pc = .ok (.invokevirtual index, 3)) (hp : pc + 3 = pc')
    (kk : fw_G p l e R s m args below meth c cells slots Q nL D aC A g n K I2 (pc') lv (.ref (g a) :: st)) : fw_G p l e R s m args below meth c cells slots Q nL D aC A g n K I (pc) lv (st0) := by
  subst hp
  intro ls H locs hl ⟨hP, hD⟩ hS
  have hF := fw_free hD hS hA
  refine va_callr (va_runV (As := As) (rest := st) C.1 (hM H.size) cw ⟨fw_pre_blind, va_recv C.2.1 hP hcl (fw_obj C.2.2 hk hc), fun U hU hW => ⟨rfl, by rw [hU], ⟨by rw [hU]; exact hP, va_K.moved hW.alike C.2.1, fw_N.warm hW hN⟩, hD.weaken (fun _ _ _ _ => trivial)⟩⟩ rfl hna hl.1 hst (lv_room hrm) hdg hcs) hS (fun q _ h => hF q h) hF (fun u ra t H1 locs1 ht hvm hw hB hz1 hk1 hS1 => ?_)
  obtain ⟨hra, hB⟩ := hB
  cases hw
  rw [hra, show (r, I2).1.toNatClampNeg = a from ha]
  exact kk ls H1 locs1 hl ⟨by rw [← ht]; exact hB.1, fw_D_any hD⟩ hS1
theorem fx_callVNi (C : fw_C p m c cc nL s args Ts own D aC n K) {pc' : Nat} (hN : fw_N s) (hA : ∀ q, s.heap.size ≤ q → A q) {k ci N : Nat} {T : u_T} {Cn : String} (hk : (K k).1 = ci) (hc : ci < 20) (hcl : fw_cl[ci]? = some (Cn, T, N)) {r : Int32} (hM : fw_Mi l y ws rm D aC g n K I (.ref (g k) :: As) (r, I2)) {host : String} (cw : va_CN R s args own index y host bytes maxL ret ws rm 0 0 na ∧ (Cond.instanceMethod y).before args s = true ∧ (Cond.selects Cn y y).before args s = true) (hcs : cells ≤ R.cells ∧ slots ≤ R.slots) (hna : As.length = na) (hst : st0 = As.reverse ++ .ref (g k) :: st) (hrm : (st.map fun v => v.category).sum ≤ 8) (hdg : decode cc pc = .ok (.invokevirtual index, 3)) (hp : pc + 3 = pc')
    (kk : fw_G p l e R s m args below meth c cells slots Q nL D aC A g n K I2 (pc') lv (.int r :: st)) : fw_G p l e R s m args below meth c cells slots Q nL D aC A g n K I (pc) lv (st0) := by
  subst hp
  intro ls H locs hl ⟨hP, hD⟩ hS
  have hF := fw_free hD hS hA
  refine va_calli (va_runVN (As := As) (rest := st) C.1 (hM H.size) cw ⟨fw_pre_blind, va_recv C.2.1 hP hcl (fw_obj C.2.2 hk hc), fun U hU hW => ⟨rfl, by rw [hU], ⟨by rw [hU]; exact hP, va_K.moved hW.alike C.2.1, fw_N.warm hW hN⟩, hD.weaken (fun _ _ _ _ => trivial)⟩⟩ rfl hna hl.1 hst (lv_room hrm) hdg hcs) hS (fun q _ h => hF q h) hF (fun r' u t H1 locs1 ht hvm hw hB hz1 hk1 hS1 => ?_)
  cases hw
  exact kk ls H1 locs1 hl ⟨by rw [← ht]; exact hB.1, fw_D_any hD⟩ hS1
theorem fx_callVNv (C : fw_C p m c cc nL s args Ts own D aC n K) {pc' : Nat} (hN : fw_N s) (hA : ∀ q, s.heap.size ≤ q → A q) {k ci N : Nat} {T : u_T} {Cn : String} (hk : (K k).1 = ci) (hc : ci < 20) (hcl : fw_cl[ci]? = some (Cn, T, N)) (hM : fw_Mv l y ws rm D aC g n K I (.ref (g k) :: As) I2) {host : String} (cw : va_CN R s args own index y host bytes maxL ret ws rm 0 0 na ∧ (Cond.instanceMethod y).before args s = true ∧ (Cond.selects Cn y y).before args s = true) (hcs : cells ≤ R.cells ∧ slots ≤ R.slots) (hna : As.length = na) (hst : st0 = As.reverse ++ .ref (g k) :: st) (hrm : (st.map fun v => v.category).sum ≤ 8) (hdg : decode cc pc = .ok (.invokevirtual index, 3)) (hp : pc + 3 = pc')
    (kk : fw_G p l e R s m args below meth c cells slots Q nL D aC A g n K I2 (pc') lv (st)) : fw_G p l e R s m args below meth c cells slots Q nL D aC A g n K I (pc) lv (st0) := by
  subst hp
  intro ls H locs hl ⟨hP, hD⟩ hS
  have hF := fw_free hD hS hA
  refine va_callv (va_runVN (As := As) (rest := st) C.1 (hM H.size) cw ⟨fw_pre_blind, va_recv C.2.1 hP hcl (fw_obj C.2.2 hk hc), fun U hU hW => ⟨rfl, by rw [hU], ⟨by rw [hU]; exact hP, va_K.moved hW.alike C.2.1, fw_N.warm hW hN⟩, hD.weaken (fun _ _ _ _ => trivial)⟩⟩ rfl hna hl.1 hst (lv_room hrm) hdg hcs) hS (fun q _ h => hF q h) hF (fun u t H1 locs1 ht hvm hw hB hz1 hk1 hS1 => ?_)
  cases hw
  exact kk ls H1 locs1 hl ⟨by rw [← ht]; exact hB.1, fw_D_any hD⟩ hS1
theorem fx_callVNr (C : fw_C p m c cc nL s args Ts own D aC n K) {pc' : Nat} (hN : fw_N s) (hA : ∀ q, s.heap.size ≤ q → A q) {k ci N : Nat} {T : u_T} {Cn : String} (hk : (K k).1 = ci) (hc : ci < 20) (hcl : fw_cl[ci]? = some (Cn, T, N)) {r : Int32} {a : Nat} (ha : r.toNatClampNeg = a) (hM : fw_Mr l y ws rm D aC g n K I (.ref (g k) :: As) (r, I2)) {host : String} (cw : va_CN R s args own index y host bytes maxL ret ws rm 0 0 na ∧ (Cond.instanceMethod y).before args s = true ∧ (Cond.selects Cn y y).before args s = true) (hcs : cells ≤ R.cells ∧ slots ≤ R.slots) (hna : As.length = na) (hst : st0 = As.reverse ++ .ref (g k) :: st) (hrm : (st.map fun v => v.category).sum ≤ 8) (hdg : decode cc pc = .ok (.invokevirtual index, 3)) (hp : pc + 3 = pc')
    (kk : fw_G p l e R s m args below meth c cells slots Q nL D aC A g n K I2 (pc') lv (.ref (g a) :: st)) : fw_G p l e R s m args below meth c cells slots Q nL D aC A g n K I (pc) lv (st0) := by
  subst hp
  intro ls H locs hl ⟨hP, hD⟩ hS
  have hF := fw_free hD hS hA
  refine va_callr (va_runVN (As := As) (rest := st) C.1 (hM H.size) cw ⟨fw_pre_blind, va_recv C.2.1 hP hcl (fw_obj C.2.2 hk hc), fun U hU hW => ⟨rfl, by rw [hU], ⟨by rw [hU]; exact hP, va_K.moved hW.alike C.2.1, fw_N.warm hW hN⟩, hD.weaken (fun _ _ _ _ => trivial)⟩⟩ rfl hna hl.1 hst (lv_room hrm) hdg hcs) hS (fun q _ h => hF q h) hF (fun u ra t H1 locs1 ht hvm hw hB hz1 hk1 hS1 => ?_)
  obtain ⟨hra, hB⟩ := hB
  cases hw
  rw [hra, show (r, I2).1.toNatClampNeg = a from ha]
  exact kk ls H1 locs1 hl ⟨by rw [← ht]; exact hB.1, fw_D_any hD⟩ hS1
theorem fx_callSi (C : fw_C p m c cc nL s args Ts own D aC n K) {pc' : Nat} (hN : fw_N s) (hA : ∀ q, s.heap.size ≤ q → A q) {r : Int32} (hM : fw_Mi l y ws rm D aC g n K I As (r, I2)) (cw : CallB R s args own index y bytes maxL ret ws rm 0 0 na ∧ (Cond.static y).before args s = true) (hcs : cells ≤ R.cells ∧ slots ≤ R.slots) (hna : As.length = na) (hst : st0 = As.reverse ++ st) (hrm : (st.map fun v => v.category).sum ≤ 8) (hdg : decode cc pc = .ok (.invokestatic index, 3)) (hp : pc + 3 = pc')
    (kk : fw_G p l e R s m args below meth c cells slots Q nL D aC A g n K I2 (pc') lv (.int r :: st)) : fw_G p l e R s m args below meth c cells slots Q nL D aC A g n K I (pc) lv (st0) := by
  subst hp
  intro ls H locs hl ⟨hP, hD⟩ hS
  have hF := fw_free hD hS hA
  refine va_calli (va_runS (As := As) (rest := st) C.1 (hM H.size) cw ⟨fw_pre_blind, fun U hU hW => ⟨rfl, by rw [hU], ⟨by rw [hU]; exact hP, va_K.moved hW.alike C.2.1, fw_N.warm hW hN⟩, hD.weaken (fun _ _ _ _ => trivial)⟩⟩ rfl hna hl.1 hst (lv_room hrm) hdg hcs) hS (fun q _ h => hF q h) hF (fun r' u t H1 locs1 ht hvm hw hB hz1 hk1 hS1 => ?_)
  cases hw
  exact kk ls H1 locs1 hl ⟨by rw [← ht]; exact hB.1, fw_D_any hD⟩ hS1
theorem fx_callSv (C : fw_C p m c cc nL s args Ts own D aC n K) {pc' : Nat} (hN : fw_N s) (hA : ∀ q, s.heap.size ≤ q → A q) (hM : fw_Mv l y ws rm D aC g n K I As I2) (cw : CallB R s args own index y bytes maxL ret ws rm 0 0 na ∧ (Cond.static y).before args s = true) (hcs : cells ≤ R.cells ∧ slots ≤ R.slots) (hna : As.length = na) (hst : st0 = As.reverse ++ st) (hrm : (st.map fun v => v.category).sum ≤ 8) (hdg : decode cc pc = .ok (.invokestatic index, 3)) (hp : pc + 3 = pc')
    (kk : fw_G p l e R s m args below meth c cells slots Q nL D aC A g n K I2 (pc') lv (st)) : fw_G p l e R s m args below meth c cells slots Q nL D aC A g n K I (pc) lv (st0) := by
  subst hp
  intro ls H locs hl ⟨hP, hD⟩ hS
  have hF := fw_free hD hS hA
  refine va_callv (va_runS (As := As) (rest := st) C.1 (hM H.size) cw ⟨fw_pre_blind, fun U hU hW => ⟨rfl, by rw [hU], ⟨by rw [hU]; exact hP, va_K.moved hW.alike C.2.1, fw_N.warm hW hN⟩, hD.weaken (fun _ _ _ _ => trivial)⟩⟩ rfl hna hl.1 hst (lv_room hrm) hdg hcs) hS (fun q _ h => hF q h) hF (fun u t H1 locs1 ht hvm hw hB hz1 hk1 hS1 => ?_)
  cases hw
  exact kk ls H1 locs1 hl ⟨by rw [← ht]; exact hB.1, fw_D_any hD⟩ hS1
theorem fx_callSr (C : fw_C p m c cc nL s args Ts own D aC n K) {pc' : Nat} (hN : fw_N s) (hA : ∀ q, s.heap.size ≤ q → A q) {r : Int32} {a : Nat} (ha : r.toNatClampNeg = a) (hM : fw_Mr l y ws rm D aC g n K I As (r, I2)) (cw : CallB R s args own index y bytes maxL ret ws rm 0 0 na ∧ (Cond.static y).before args s = true) (hcs : cells ≤ R.cells ∧ slots ≤ R.slots) (hna : As.length = na) (hst : st0 = As.reverse ++ st) (hrm : (st.map fun v => v.category).sum ≤ 8) (hdg : decode cc pc = .ok (.invokestatic index, 3)) (hp : pc + 3 = pc')
    (kk : fw_G p l e R s m args below meth c cells slots Q nL D aC A g n K I2 (pc') lv (.ref (g a) :: st)) : fw_G p l e R s m args below meth c cells slots Q nL D aC A g n K I (pc) lv (st0) := by
  subst hp
  intro ls H locs hl ⟨hP, hD⟩ hS
  have hF := fw_free hD hS hA
  refine va_callr (va_runS (As := As) (rest := st) C.1 (hM H.size) cw ⟨fw_pre_blind, fun U hU hW => ⟨rfl, by rw [hU], ⟨by rw [hU]; exact hP, va_K.moved hW.alike C.2.1, fw_N.warm hW hN⟩, hD.weaken (fun _ _ _ _ => trivial)⟩⟩ rfl hna hl.1 hst (lv_room hrm) hdg hcs) hS (fun q _ h => hF q h) hF (fun u ra t H1 locs1 ht hvm hw hB hz1 hk1 hS1 => ?_)
  obtain ⟨hra, hB⟩ := hB
  cases hw
  rw [hra, show (r, I2).1.toNatClampNeg = a from ha]
  exact kk ls H1 locs1 hl ⟨by rw [← ht]; exact hB.1, fw_D_any hD⟩ hS1
end FWX

