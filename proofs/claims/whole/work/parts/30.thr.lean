/-! exceptions: what their making rests on -/
def th_s4 : List Cond := [.laysStatic Bundle.tN "UNASSIGNED_STACK" Bundle.steD, .laysStatic Bundle.tN "SUPPRESSED_SENTINEL" Bundle.listD, .isRef (.static Bundle.tN "UNASSIGNED_STACK" Bundle.steD), .isRef (.static Bundle.tN "SUPPRESSED_SENTINEL" Bundle.listD)]
def th_sup : List String := ["java/lang/RuntimeException", "java/lang/Exception"]
def th_ok (a : Cond) : Bool := decide (a ∈ fw_ws) || (decide (a ∈ fw_nest) || decide (a ∈ th_s4))
theorem th_in1 : (Bundle.ownAtoms "FencedLedger" 69 "java/lang/IllegalStateException" th_sup).all th_ok = true := by decide +kernel
theorem th_in2 : (Bundle.ownAtoms "FencedLedger" 80 "java/lang/IndexOutOfBoundsException" th_sup).all th_ok = true := by decide +kernel
theorem th_in3 : (Bundle.ownAtoms "FencedLedger" 184 "java/lang/UnsupportedOperationException" th_sup).all th_ok = true := by decide +kernel
def th_str (k : Nat) (tx : String) (U : State) : Prop := ∃ a, vk_R "FencedLedger" k tx a U
def th_T (U : State) : Prop := (∀ w ∈ th_s4, w.before #[] U = true) ∧ th_str 67 "the writer is not writing" U ∧ th_str 78 "too many entries" U ∧ th_str 173 "the ledger is not closed" U ∧ th_str 175 "no such entry" U ∧ th_str 182 "no store that is up has it" U
theorem th_str.warm {k : Nat} {tx : String} {s U : State} (hW : s.WarmedH U.vm) (h : th_str k tx s) : th_str k tx U := by
  obtain ⟨a, h⟩ := h
  exact ⟨a, h.warm hW⟩
theorem th_lays {s U : State} {O f d : String} (hvm : s.vm.Alike U.vm) (hH : ∀ (q : Nat) (cell : Cell), s.heap[q]? = some cell → cell.vm.isStatics = true → U.heap[q]? = some cell) (h : (Cond.laysStatic O f d).before #[] s = true) : (Cond.laysStatic O f d).before #[] U = true := by
  obtain ⟨c, k, i, fd, a, cell, hc, hf, hst, hsta, hcell, hiss, hcls, hlt, hty⟩ := Cond.laysStatic_spec (Cond.laysStatic_setVm hvm h)
  exact Cond.laysStatic_of (s := U) hc hf hst hsta (hH a cell hcell hiss) hiss hcls hlt hty
theorem th_isRef {s U : State} {O f d : String} (hvm : s.vm.Alike U.vm) (hH : ∀ (q : Nat) (cell : Cell), s.heap[q]? = some cell → cell.vm.isStatics = true → U.heap[q]? = some cell) (h1 : (Cond.laysStatic O f d).before #[] s = true) (h : (Cond.isRef (.static O f d)).before #[] s = true) : (Cond.isRef (.static O f d)).before #[] U = true := by
  obtain ⟨c, k, i, fd, a, cell, hc, hf, hst, hsta, hcell, hiss, hcls, hlt, hty⟩ := Cond.laysStatic_spec (Cond.laysStatic_setVm hvm h1)
  have h2 : (Cond.isRef (.static O f d)).before #[] (s.setVm U.vm) = true := by
    unfold Cond.before Cond.holds at h ⊢
    rw [Cond.value_setVm hvm _ _ rfl]
    exact h
  have a1 : s.heap[a]? = some cell := hcell
  have a2 : U.heap[a]? = some cell := hH a cell hcell hiss
  have hf' : U.fieldFound? O f d = some (c, k, i, fd) := hf
  have e1 : (Term.static O f d).eval #[] (s.setVm U.vm) none [] (s.setVm U.vm) = (Term.static O f d).eval #[] U none [] U := by
    simp [Term.eval, State.fieldNamed?, hf, hf', hst, hsta, a1, a2]
  simp only [Cond.before, Cond.holds, Cond.value] at h2 ⊢
  rw [← e1]
  exact h2
theorem th_T.move {s U : State} (hW : s.WarmedH U.vm) (hH : ∀ (q : Nat) (cell : Cell), s.heap[q]? = some cell → cell.vm.isStatics = true → U.heap[q]? = some cell) (h : th_T s) : th_T U := by
  obtain ⟨h4, s1, s2, s3, s4, s5⟩ := h
  refine ⟨fun w hw => ?_, s1.warm hW, s2.warm hW, s3.warm hW, s4.warm hW, s5.warm hW⟩
  have l1 := h4 (.laysStatic Bundle.tN "UNASSIGNED_STACK" Bundle.steD) (by simp [th_s4])
  have l2 := h4 (.laysStatic Bundle.tN "SUPPRESSED_SENTINEL" Bundle.listD) (by simp [th_s4])
  have r1 := h4 (.isRef (.static Bundle.tN "UNASSIGNED_STACK" Bundle.steD)) (by simp [th_s4])
  have r2 := h4 (.isRef (.static Bundle.tN "SUPPRESSED_SENTINEL" Bundle.listD)) (by simp [th_s4])
  simp only [th_s4, List.mem_cons, List.not_mem_nil, or_false] at hw
  rcases hw with rfl | rfl | rfl | rfl
  · exact th_lays hW.alike hH l1
  · exact th_lays hW.alike hH l2
  · exact th_isRef hW.alike hH l1 r1
  · exact th_isRef hW.alike hH l2 r2
theorem fw_N_use {w : Cond} (hw : w ∈ fw_nest) {s : State} {args : Array Value} (h : fw_N s) : w.before args s = true := by
  have h1 := h.1 w hw
  have h2 := (List.mem_filter.mp hw).2
  cases w <;> first | (simp [fw_isN] at h2; done) | exact va_Nw.use rfl h1
theorem th_words {L : List Cond} (hL : L.all th_ok = true) {s : State} {args : Array Value} (hw : ∀ w ∈ fw_ws, w.before args s = true) (hN : fw_N s) (hT : th_T s) : ∀ a ∈ L, a.before args s = true := by
  intro a ha
  have h1 := List.all_eq_true.mp hL a ha
  unfold th_ok at h1
  rw [Bool.or_eq_true, Bool.or_eq_true, decide_eq_true_eq, decide_eq_true_eq, decide_eq_true_eq] at h1
  rcases h1 with h | h | h
  · exact hw a h
  · exact fw_N_use h hN
  · have h4 := hT.1 a h
    simp only [th_s4, List.mem_cons, List.not_mem_nil, or_false] at h
    rcases h with rfl | rfl | rfl | rfl <;> exact h4

