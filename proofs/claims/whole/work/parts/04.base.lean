/-! the memory of a side: n cells with labels 0 .. n - 1; label k lies at the address g k; K: its kind (code, length); I: its ints (a reference is the label that it points to, -1 for null) -/
def fw_W (g : Nat → Nat) (n : Nat) (M : Nat → va_E) : va_W := (List.range n).map (fun k => (g k, M k))
theorem fw_len {g : Nat → Nat} {n : Nat} {M : Nat → va_E} : (fw_W g n M).length = n := by
  unfold fw_W
  rw [List.length_map, List.length_range]
theorem fw_get {g : Nat → Nat} {n : Nat} {M : Nat → va_E} {k : Nat} (h : k < n) : (fw_W g n M)[k]? = some (g k, M k) := by
  unfold fw_W
  rw [List.getElem?_map, List.getElem?_range h]
  rfl
theorem fw_out {g : Nat → Nat} {n : Nat} {M : Nat → va_E} {k : Nat} (h : ¬ k < n) : (fw_W g n M)[k]? = none := by
  apply List.getElem?_eq_none
  rw [fw_len]
  omega
theorem fw_at {g : Nat → Nat} {n : Nat} {M : Nat → va_E} {k : Nat} {q : Nat × va_E} (h : (fw_W g n M)[k]? = some q) : k < n ∧ q = (g k, M k) := by
  by_cases hk : k < n
  · rw [fw_get hk] at h
    exact ⟨hk, (Option.some.inj h).symm⟩
  · rw [fw_out hk] at h
    cases h
theorem fw_set {g : Nat → Nat} {n : Nat} {M : Nat → va_E} {k : Nat} {e : va_E} (h : k < n) : (fw_W g n M).set k (g k, e) = fw_W g n (va_up M k e) := by
  apply List.ext_getElem?
  intro j
  by_cases hj : j = k
  · subst hj
    rw [List.getElem?_set_self (by rw [fw_len]; exact h), fw_get h, va_up_self]
  · rw [List.getElem?_set_ne (Ne.symm hj)]
    by_cases hn : j < n
    · rw [fw_get hn, fw_get hn, va_up_ne _ _ hj]
    · rw [fw_out hn, fw_out hn]
theorem fw_congr {g g' : Nat → Nat} {n : Nat} {M M' : Nat → va_E} (h : ∀ k, k < n → g k = g' k ∧ M k = M' k) : fw_W g n M = fw_W g' n M' := by
  apply List.ext_getElem?
  intro j
  by_cases hn : j < n
  · rw [fw_get hn, fw_get hn, (h j hn).1, (h j hn).2]
  · rw [fw_out hn, fw_out hn]
theorem fw_push {g : Nat → Nat} {n : Nat} {M : Nat → va_E} {q : Nat} {e : va_E} : fw_W g n M ++ [(q, e)] = fw_W (va_up g n q) (n + 1) (va_up M n e) := by
  apply List.ext_getElem?
  intro j
  by_cases hn : j < n
  · rw [List.getElem?_append_left (by rw [fw_len]; exact hn), fw_get hn, fw_get (by omega), va_up_ne _ _ (by omega), va_up_ne _ _ (by omega)]
  · rw [List.getElem?_append_right (by rw [fw_len]; omega), fw_len]
    by_cases hj : j = n
    · subst hj
      rw [fw_get (by omega), va_up_self, va_up_self, Nat.sub_self]
      rfl
    · rw [fw_out (by omega)]
      apply List.getElem?_eq_none
      show 1 ≤ j - n
      omega
def fw_up2 (I : Nat → Nat → Int32) (k j : Nat) (x : Int32) : Nat → Nat → Int32 := va_up I k (upd (I k) j x)
theorem fw_up2_eq (I : Nat → Nat → Int32) (k j : Nat) (x : Int32) : fw_up2 I k j x k j = x := by
  unfold fw_up2
  rw [va_up_self, pk_us]
theorem fw_up2_k (I : Nat → Nat → Int32) {k j k' : Nat} (x : Int32) (h : k' ≠ k) : fw_up2 I k j x k' = I k' := by
  unfold fw_up2
  rw [va_up_ne _ _ h]
theorem fw_up2_j (I : Nat → Nat → Int32) {k j j' : Nat} (x : Int32) (h : j' ≠ j) (k' : Nat) : fw_up2 I k j x k' j' = I k' j' := by
  unfold fw_up2
  by_cases hk : k' = k
  · subst hk
    rw [va_up_self, pk_un h]
  · rw [va_up_ne _ _ hk]
/-- the address that a reference stands for -/
def fw_ro (g : Nat → Nat) (x : Int32) : Option Nat := if x < 0 then none else some (g x.toNatClampNeg)
theorem fw_ro_some {g : Nat → Nat} {x : Int32} (h : ¬ x < 0) : fw_ro g x = some (g x.toNatClampNeg) := by
  unfold fw_ro
  rw [if_neg h]
/-- a field of an object of class c: its value -/
def fw_fd (g : Nat → Nat) (c : Nat) (i : Nat → Int32) (j : Nat) : Value := if fw_rf c j = true then va_rf (fw_ro g (i j)) else .int (i j)
def fw_fs (g : Nat → Nat) (c : Nat) (i : Nat → Int32) : List Value := (List.range (fw_nf c)).map (fw_fd g c i)
theorem fw_fs_get {g : Nat → Nat} {c : Nat} {i : Nat → Int32} {j : Nat} (h : j < fw_nf c) : (fw_fs g c i)[j]? = some (fw_fd g c i j) := by
  unfold fw_fs
  rw [List.getElem?_map, List.getElem?_range h]
  rfl
theorem fw_fs_len {g : Nat → Nat} {c : Nat} {i : Nat → Int32} : (fw_fs g c i).length = fw_nf c := by
  unfold fw_fs
  rw [List.length_map, List.length_range]
theorem fw_fs_set {g : Nat → Nat} {c : Nat} {i : Nat → Int32} {j : Nat} {x : Int32} {v : Value} (h : j < fw_nf c) (hv : v = if fw_rf c j = true then va_rf (fw_ro g x) else .int x) : (fw_fs g c i).set j v = fw_fs g c (upd i j x) := by
  apply List.ext_getElem?
  intro a
  by_cases ha : a = j
  · subst ha
    rw [List.getElem?_set_self (by rw [fw_fs_len]; exact h), fw_fs_get h, hv]
    unfold fw_fd
    rw [pk_us]
  · rw [List.getElem?_set_ne (Ne.symm ha)]
    by_cases hn : a < fw_nf c
    · rw [fw_fs_get hn, fw_fs_get hn]
      unfold fw_fd
      rw [pk_un ha]
    · rw [List.getElem?_eq_none (by rw [fw_fs_len]; omega), List.getElem?_eq_none (by rw [fw_fs_len]; omega)]
/-- what an array of kind c holds -/
def fw_ct (g : Nat → Nat) (c : Nat) (i : Nat → Int32) : ((Nat → Int32) ⊕ (Nat → Int64) ⊕ (Nat → UInt32) ⊕ (Nat → UInt64) ⊕ (Nat → Option Nat)) :=
  if c = 20 ∨ c = 21 then .inl i else if c = 22 then .inr (.inl (fun j => (i j).toInt64)) else .inr (.inr (.inr (.inr (fun j => fw_ro g (i j)))))
/-- a cell of kind (c, len): objects have c below 20 -/
def fw_sh (aC : Nat → ClassId) (g : Nat → Nat) (kd : Nat × Nat) (i : Nat → Int32) : va_E :=
  if kd.1 < 20 then .inr (kd.1, fw_fs g kd.1 i) else .inl (aC kd.1, kd.2, fw_ct g kd.1 i)
def fw_M (aC : Nat → ClassId) (g : Nat → Nat) (K : Nat → Nat × Nat) (I : Nat → Nat → Int32) : Nat → va_E := fun k => fw_sh aC g (K k) (I k)
theorem fw_M_up {aC : Nat → ClassId} {g : Nat → Nat} {K : Nat → Nat × Nat} {I : Nat → Nat → Int32} {k j : Nat} {x : Int32} : va_up (fw_M aC g K I) k (fw_sh aC g (K k) (upd (I k) j x)) = fw_M aC g K (fw_up2 I k j x) := by
  funext a
  by_cases ha : a = k
  · subst ha
    rw [va_up_self]
    unfold fw_M fw_up2
    rw [va_up_self]
  · rw [va_up_ne _ _ ha]
    unfold fw_M fw_up2
    rw [va_up_ne _ _ ha]
theorem fw_fd_i {g : Nat → Nat} {c j : Nat} {i : Nat → Int32} (h : fw_rf c j = false) : fw_fd g c i j = .int (i j) := by
  unfold fw_fd
  rw [if_neg (by rw [h]; decide)]
theorem fw_fd_r {g : Nat → Nat} {c j a : Nat} {i : Nat → Int32} (h : fw_rf c j = true) (hx : ¬ i j < 0) (ha : (i j).toNatClampNeg = a) : fw_fd g c i j = .ref (g a) := by
  unfold fw_fd
  rw [if_pos h, fw_ro_some hx, ha]
  rfl
theorem fw_pv_i {g : Nat → Nat} {c j : Nat} {x : Int32} (h : fw_rf c j = false) : (Value.int x) = if fw_rf c j = true then va_rf (fw_ro g x) else .int x := by
  rw [if_neg (by rw [h]; decide)]
theorem fw_pv_r {g : Nat → Nat} {c j a : Nat} {x : Int32} (h : fw_rf c j = true) (hx : ¬ x < 0) (ha : x.toNatClampNeg = a) : (Value.ref (g a)) = if fw_rf c j = true then va_rf (fw_ro g x) else .int x := by
  rw [if_pos h, fw_ro_some hx, ha]
  rfl
theorem fw_M_obj {aC : Nat → ClassId} {g : Nat → Nat} {K : Nat → Nat × Nat} {I : Nat → Nat → Int32} {k ci : Nat} (hk : (K k).1 = ci) (hc : ci < 20) : fw_M aC g K I k = .inr (ci, fw_fs g ci (I k)) := by
  unfold fw_M fw_sh
  rw [hk, if_pos hc]
theorem fw_M_arr {aC : Nat → ClassId} {g : Nat → Nat} {K : Nat → Nat × Nat} {I : Nat → Nat → Int32} {k c : Nat} (hk : (K k).1 = c) (hc : ¬ c < 20) : fw_M aC g K I k = .inl (aC c, (K k).2, fw_ct g c (I k)) := by
  unfold fw_M fw_sh
  rw [hk, if_neg hc]
theorem fw_obj {aC : Nat → ClassId} {g : Nat → Nat} {n : Nat} {K : Nat → Nat × Nat} {I : Nat → Nat → Int32} {k ci : Nat} (hn : ∀ k, (K k).1 < 99 → k < n) (hk : (K k).1 = ci) (hc : ci < 20) : (fw_W g n (fw_M aC g K I))[k]? = some (g k, .inr (ci, fw_fs g ci (I k))) := by
  rw [fw_get (hn k (by omega)), fw_M_obj hk hc]
theorem fw_objset {aC : Nat → ClassId} {g : Nat → Nat} {n : Nat} {K : Nat → Nat × Nat} {I : Nat → Nat → Int32} {k ci j : Nat} {x : Int32} {v : Value} (hn : ∀ k, (K k).1 < 99 → k < n) (hk : (K k).1 = ci) (hc : ci < 20) (hj : j < fw_nf ci) (hv : v = if fw_rf ci j = true then va_rf (fw_ro g x) else .int x) : (fw_W g n (fw_M aC g K I)).set k (g k, .inr (ci, (fw_fs g ci (I k)).set j v)) = fw_W g n (fw_M aC g K (fw_up2 I k j x)) := by
  rw [fw_set (hn k (by omega)), fw_fs_set hj hv, ← fw_M_up]
  unfold fw_sh
  rw [hk, if_pos hc]
def fw_ix (i : Int32) (n : Nat) : Bool := decide (0 ≤ i.toInt ∧ i.toInt < n)
theorem fw_ix_in {i : Int32} {n : Nat} (h : fw_ix i n = true) : vp_in i n := vp_in_iff.mpr (of_decide_eq_true h)
def fw_bl (x : Int32) : Bool := decide (x = 0 ∨ x = 1)
theorem fw_nar {x : Int32} (h : fw_bl x = true) : vp_nar .boolean x = x := by
  rcases of_decide_eq_true h with rfl | rfl <;> decide
theorem fw_nz {x : Int32} (h : fw_bl x = true) : narrow .boolean (.int x) = .int x ∧ fits .boolean (.int x) = true := by
  rcases of_decide_eq_true h with rfl | rfl <;> decide
theorem fw_ct20 {g : Nat → Nat} {i : Nat → Int32} : fw_ct g 20 i = .inl i := rfl
theorem fw_ct21 {g : Nat → Nat} {i : Nat → Int32} : fw_ct g 21 i = .inl i := rfl
theorem fw_arr_at {aC : Nat → ClassId} {g : Nat → Nat} {n : Nat} {K : Nat → Nat × Nat} {I : Nat → Nat → Int32} {k c : Nat} (hn : ∀ k, (K k).1 < 99 → k < n) (hk : (K k).1 = c) (hc : ¬ c < 20) (hd : c < 99) : (fw_W g n (fw_M aC g K I))[k]? = some (g k, .inl (aC c, (K k).2, fw_ct g c (I k))) := by
  rw [fw_get (hn k (by omega)), fw_M_arr hk hc]
theorem fw_arr_set {aC : Nat → ClassId} {g : Nat → Nat} {n : Nat} {K : Nat → Nat × Nat} {I : Nat → Nat → Int32} {k c j : Nat} {x : Int32} {v : ((Nat → Int32) ⊕ (Nat → Int64) ⊕ (Nat → UInt32) ⊕ (Nat → UInt64) ⊕ (Nat → Option Nat))} (hn : ∀ k, (K k).1 < 99 → k < n) (hk : (K k).1 = c) (hc : ¬ c < 20) (hd : c < 99) (hv : v = fw_ct g c (upd (I k) j x)) : (fw_W g n (fw_M aC g K I)).set k (g k, .inl (aC c, (K k).2, v)) = fw_W g n (fw_M aC g K (fw_up2 I k j x)) := by
  rw [fw_set (hn k (by omega)), hv, ← fw_M_up]
  unfold fw_sh
  rw [hk, if_neg hc]
theorem fw_arr20 {aC : Nat → ClassId} {g : Nat → Nat} {n : Nat} {K : Nat → Nat × Nat} {I : Nat → Nat → Int32} {k : Nat} (hn : ∀ k, (K k).1 < 99 → k < n) (hk : (K k).1 = 20) : (fw_W g n (fw_M aC g K I))[k]? = some (g k, .inl (aC 20, (K k).2, .inl (I k))) := fw_arr_at hn hk (by decide) (by decide)
theorem fw_arr21 {aC : Nat → ClassId} {g : Nat → Nat} {n : Nat} {K : Nat → Nat × Nat} {I : Nat → Nat → Int32} {k : Nat} (hn : ∀ k, (K k).1 < 99 → k < n) (hk : (K k).1 = 21) : (fw_W g n (fw_M aC g K I))[k]? = some (g k, .inl (aC 21, (K k).2, .inl (I k))) := fw_arr_at hn hk (by decide) (by decide)
theorem fw_arrset20 {aC : Nat → ClassId} {g : Nat → Nat} {n : Nat} {K : Nat → Nat × Nat} {I : Nat → Nat → Int32} {k j : Nat} {x : Int32} (hn : ∀ k, (K k).1 < 99 → k < n) (hk : (K k).1 = 20) : (fw_W g n (fw_M aC g K I)).set k (g k, .inl (aC 20, (K k).2, .inl (upd (I k) j x))) = fw_W g n (fw_M aC g K (fw_up2 I k j x)) := fw_arr_set hn hk (by decide) (by decide) rfl
theorem fw_arrset21 {aC : Nat → ClassId} {g : Nat → Nat} {n : Nat} {K : Nat → Nat × Nat} {I : Nat → Nat → Int32} {k j : Nat} {x y : Int32} (hn : ∀ k, (K k).1 < 99 → k < n) (hk : (K k).1 = 21) (hy : y = x) : (fw_W g n (fw_M aC g K I)).set k (g k, .inl (aC 21, (K k).2, .inl (upd (I k) j y))) = fw_W g n (fw_M aC g K (fw_up2 I k j x)) := by
  subst hy
  exact fw_arr_set hn hk (by decide) (by decide) rfl
/-- the class of an array's elements -/
def fw_el (c : Nat) : Nat := if c = 23 then fw_cStore else if c = 24 then fw_cMessage else fw_cRecoverer
theorem fw_ro_up {g : Nat → Nat} {i : Nat → Int32} {j a : Nat} {x : Int32} (hx : ¬ x < 0) (ha : x.toNatClampNeg = a) : va_up (fun j => fw_ro g (i j)) j (some (g a)) = fun q => fw_ro g (upd i j x q) := by
  funext q
  by_cases hq : q = j
  · subst hq
    rw [va_up_self, pk_us, fw_ro_some hx, ha]
  · rw [va_up_ne _ _ hq, pk_un hq]
theorem fw_arr23 {aC : Nat → ClassId} {g : Nat → Nat} {n : Nat} {K : Nat → Nat × Nat} {I : Nat → Nat → Int32} {k : Nat} (hn : ∀ k, (K k).1 < 99 → k < n) (hk : (K k).1 = 23) : (fw_W g n (fw_M aC g K I))[k]? = some (g k, .inl (aC 23, (K k).2, .inr (.inr (.inr (.inr (fun j => fw_ro g (I k j))))))) := fw_arr_at hn hk (by decide) (by decide)
theorem fw_arrset23 {aC : Nat → ClassId} {g : Nat → Nat} {n : Nat} {K : Nat → Nat × Nat} {I : Nat → Nat → Int32} {k j a : Nat} {x : Int32} (hn : ∀ k, (K k).1 < 99 → k < n) (hk : (K k).1 = 23) (hx : ¬ x < 0) (ha : x.toNatClampNeg = a) : (fw_W g n (fw_M aC g K I)).set k (g k, .inl (aC 23, (K k).2, .inr (.inr (.inr (.inr (va_up (fun j => fw_ro g (I k j)) j (some (g a)))))))) = fw_W g n (fw_M aC g K (fw_up2 I k j x)) := fw_arr_set hn hk (by decide) (by decide) (by rw [fw_ro_up hx ha]; rfl)
theorem fw_arr24 {aC : Nat → ClassId} {g : Nat → Nat} {n : Nat} {K : Nat → Nat × Nat} {I : Nat → Nat → Int32} {k : Nat} (hn : ∀ k, (K k).1 < 99 → k < n) (hk : (K k).1 = 24) : (fw_W g n (fw_M aC g K I))[k]? = some (g k, .inl (aC 24, (K k).2, .inr (.inr (.inr (.inr (fun j => fw_ro g (I k j))))))) := fw_arr_at hn hk (by decide) (by decide)
theorem fw_arrset24 {aC : Nat → ClassId} {g : Nat → Nat} {n : Nat} {K : Nat → Nat × Nat} {I : Nat → Nat → Int32} {k j a : Nat} {x : Int32} (hn : ∀ k, (K k).1 < 99 → k < n) (hk : (K k).1 = 24) (hx : ¬ x < 0) (ha : x.toNatClampNeg = a) : (fw_W g n (fw_M aC g K I)).set k (g k, .inl (aC 24, (K k).2, .inr (.inr (.inr (.inr (va_up (fun j => fw_ro g (I k j)) j (some (g a)))))))) = fw_W g n (fw_M aC g K (fw_up2 I k j x)) := fw_arr_set hn hk (by decide) (by decide) (by rw [fw_ro_up hx ha]; rfl)
theorem fw_arr25 {aC : Nat → ClassId} {g : Nat → Nat} {n : Nat} {K : Nat → Nat × Nat} {I : Nat → Nat → Int32} {k : Nat} (hn : ∀ k, (K k).1 < 99 → k < n) (hk : (K k).1 = 25) : (fw_W g n (fw_M aC g K I))[k]? = some (g k, .inl (aC 25, (K k).2, .inr (.inr (.inr (.inr (fun j => fw_ro g (I k j))))))) := fw_arr_at hn hk (by decide) (by decide)
theorem fw_arrset25 {aC : Nat → ClassId} {g : Nat → Nat} {n : Nat} {K : Nat → Nat × Nat} {I : Nat → Nat → Int32} {k j a : Nat} {x : Int32} (hn : ∀ k, (K k).1 < 99 → k < n) (hk : (K k).1 = 25) (hx : ¬ x < 0) (ha : x.toNatClampNeg = a) : (fw_W g n (fw_M aC g K I)).set k (g k, .inl (aC 25, (K k).2, .inr (.inr (.inr (.inr (va_up (fun j => fw_ro g (I k j)) j (some (g a)))))))) = fw_W g n (fw_M aC g K (fw_up2 I k j x)) := fw_arr_set hn hk (by decide) (by decide) (by rw [fw_ro_up hx ha]; rfl)
/-- what a walk knows from its beginning to its end -/
abbrev fw_C (p : Program) (m : MethodId) (c : Code) (cc : ByteArray) (nL : Nat) (s : State) (args : Array Value) (Ts : List Cond) (own : String) (D : va_G) (aC : Nat → ClassId) (n : Nat) (K : Nat → Nat × Nat) : Prop :=
  CallFix p m c cc nL s args Ts own ∧ va_K D fw_cl (fw_tys aC) s ∧ ∀ k, (K k).1 < 99 → k < n
theorem fw_toP {D : va_G} {cl : List vw_C} {ws ws' : va_W} {H : Heap} (h : ws = ws') (x : va_P D cl ws H) : va_P D cl ws' H := h ▸ x
theorem fw_toD {A : Nat → Prop} {ws ws' : va_W} (h : ws = ws') (x : va_D A ws) : va_D A ws' := h ▸ x
/-- the memory I lies in the heap -/
def fw_Wd (D : va_G) (aC : Nat → ClassId) (A : Nat → Prop) (g : Nat → Nat) (n : Nat) (K : Nat → Nat × Nat) (I : Nat → Nat → Int32) (H : Heap) : Prop := va_P D fw_cl (fw_W g n (fw_M aC g K I)) H ∧ va_D A (fw_W g n (fw_M aC g K I))
/-- the walk at pc, with these locals and this stack, over heaps of which Wd holds -/
def fw_H (p : Program) (l : Launch) (e : Env) (R : Room) (s : State) (m : MethodId) (args : Array Value) (below : List Frame) (meth : Method) (c : Code) (cells slots : Nat) (Q : State → Prop) (nL : Nat) (A : Nat → Prop) (Wd : Heap → Prop) (pc : Nat) (lv : List (Nat × Value)) (st : List Value) : Prop :=
  ∀ (ls : Array Slot) (H : Heap) (locs : List Loc), lv_has ls nL lv → Wd H → va_S A s.heap H locs → W p l e R s m args below meth c H locs cells slots Q (F0 m pc ls st)
abbrev fw_G (p : Program) (l : Launch) (e : Env) (R : Room) (s : State) (m : MethodId) (args : Array Value) (below : List Frame) (meth : Method) (c : Code) (cells slots : Nat) (Q : State → Prop) (nL : Nat) (D : va_G) (aC : Nat → ClassId) (A : Nat → Prop) (g : Nat → Nat) (n : Nat) (K : Nat → Nat × Nat) (I : Nat → Nat → Int32) (pc : Nat) (lv : List (Nat × Value)) (st : List Value) : Prop :=
  fw_H p l e R s m args below meth c cells slots Q nL A (fw_Wd D aC A g n K I) pc lv st
/-! the combinators of the printed functions: each with what it gives -/
def fw_let {α ρ : Type} (a : α) (f : α → Option ρ) : Option ρ := f a
theorem fw_let_some {α ρ : Type} {a : α} {f : α → Option ρ} {r : ρ} (h : fw_let a f = some r) : ∃ b, b = a ∧ f b = some r := ⟨a, rfl, h⟩
def fw_gd {ρ : Type} (b : Bool) (x : Option ρ) : Option ρ := if b = true then x else none
theorem fw_gd_some {ρ : Type} {b : Bool} {x : Option ρ} {r : ρ} (h : fw_gd b x = some r) : b = true ∧ x = some r := by
  unfold fw_gd at h
  by_cases hb : b = true
  · rw [if_pos hb] at h
    exact ⟨hb, h⟩
  · rw [if_neg hb] at h
    cases h
def fw_ld {ρ : Type} (K : Nat → Nat × Nat) (x : Int32) (c : Nat) (f : Nat → Option ρ) : Option ρ := if ¬ x < 0 ∧ (K x.toNatClampNeg).1 = c then f x.toNatClampNeg else none
theorem fw_ld_some {ρ : Type} {K : Nat → Nat × Nat} {x : Int32} {c : Nat} {f : Nat → Option ρ} {r : ρ} (h : fw_ld K x c f = some r) : ∃ a, ¬ x < 0 ∧ x.toNatClampNeg = a ∧ (K a).1 = c ∧ f a = some r := by
  unfold fw_ld at h
  by_cases hb : ¬ x < 0 ∧ (K x.toNatClampNeg).1 = c
  · rw [if_pos hb] at h
    exact ⟨_, hb.1, rfl, hb.2, h⟩
  · rw [if_neg hb] at h
    cases h
def fw_bd {α β ρ : Type} (q : Option (α × β)) (f : α → β → Option ρ) : Option ρ := match q with
  | none => none
  | some r => f r.1 r.2
theorem fw_bd_some {α β ρ : Type} {q : Option (α × β)} {f : α → β → Option ρ} {r : ρ} (h : fw_bd q f = some r) : ∃ a b, q = some (a, b) ∧ f a b = some r := by
  cases q with
  | none => cases h
  | some q => exact ⟨q.1, q.2, rfl, h⟩
def fw_bv {β ρ : Type} (q : Option β) (f : β → Option ρ) : Option ρ := match q with
  | none => none
  | some r => f r
theorem fw_bv_some {β ρ : Type} {q : Option β} {f : β → Option ρ} {r : ρ} (h : fw_bv q f = some r) : ∃ b, q = some b ∧ f b = some r := by
  cases q with
  | none => cases h
  | some q => exact ⟨q, rfl, h⟩

