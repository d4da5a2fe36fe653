/-! memories that grow: the kinds as a list, the cell k at the address b + k -/
def fw_k (L : List (Nat × Nat)) (k : Nat) : Nat × Nat := L.getD k (99, 0)
theorem fw_k_lt {L : List (Nat × Nat)} : ∀ k, (fw_k L k).1 < 99 → k < L.length := by
  intro k h
  apply Nat.not_le.mp
  intro hk
  unfold fw_k at h
  rw [List.getD_eq_getElem?_getD, List.getElem?_eq_none hk] at h
  exact absurd h (by decide)
theorem fw_k_app {L ext : List (Nat × Nat)} {k : Nat} (hk : k < L.length) : fw_k (L ++ ext) k = fw_k L k := by
  unfold fw_k
  rw [List.getD_eq_getElem?_getD, List.getD_eq_getElem?_getD, List.getElem?_append_left hk]
theorem fw_k_old {L L2 ext : List (Nat × Nat)} {k c : Nat} (e : L2 = L ++ ext) (h : (fw_k L k).1 = c) (hc : c < 99) : (fw_k L2 k).1 = c := by
  have hk := fw_k_lt k (by rw [h]; exact hc)
  rw [e, fw_k_app hk]
  exact h
theorem fw_k_at {L : List (Nat × Nat)} {kd : Nat × Nat} : fw_k (L ++ [kd]) L.length = kd := by
  unfold fw_k
  rw [List.getD_eq_getElem?_getD, List.getElem?_append_right (Nat.le_refl _), Nat.sub_self]
  rfl
theorem fw_k_new {L L2 : List (Nat × Nat)} {kd : Nat × Nat} {a : Nat} (ea : L.length = a) (e : L2 = L ++ [kd]) : (fw_k L2 a).1 = kd.1 := by
  rw [e, ← ea, fw_k_at]
theorem fw_hl {l0 : Nat} {L L2 ext : List (Nat × Nat)} (e : L2 = L ++ ext) (h : l0 ≤ L.length) : l0 ≤ L2.length := by
  rw [e, List.length_append]
  omega
def fw_sz (kd : Nat × Nat) : Nat := if kd.1 < 20 then fw_nf kd.1 else kd.2
def fw_ss (l0 : Nat) (L : List (Nat × Nat)) : Nat := ((L.drop l0).map fw_sz).sum
theorem fw_ss_app {l0 : Nat} {L L2 : List (Nat × Nat)} {kd : Nat × Nat} (e : L2 = L ++ [kd]) (h : l0 ≤ L.length) : fw_ss l0 L2 = fw_ss l0 L + fw_sz kd := by
  subst e
  unfold fw_ss
  rw [List.drop_append_of_le_length h, List.map_append, List.sum_append]
  simp
theorem fw_ss_0 {L : List (Nat × Nat)} : fw_ss L.length L = 0 := by
  unfold fw_ss
  rw [List.drop_length]
  rfl
theorem fw_cs_app {l0 : Nat} {L L2 : List (Nat × Nat)} {kd : Nat × Nat} (e : L2 = L ++ [kd]) (h : l0 ≤ L.length) : L2.length - l0 = L.length - l0 + 1 := by
  rw [e, List.length_append]
  show L.length + 1 - l0 = L.length - l0 + 1
  omega
def fw_d (c : Nat) : Nat → Int32 := fun j => if fw_rf c j = true then -1 else 0
theorem fw_nn {a : Nat} (h : a < 1000) : ¬ Int32.ofNat a < 0 := by
  intro h0
  have h1 : (Int32.ofNat a).toInt < 0 := Int32.lt_iff_toInt_lt.mp h0
  rw [Int32.toInt_ofNat_of_lt (by omega)] at h1
  omega
theorem fw_ne {a : Nat} (h : a < 1000) : (Int32.ofNat a).toNatClampNeg = a := by
  show (Int32.ofNat a).toInt.toNat = a
  rw [Int32.toInt_ofNat_of_lt (by omega)]
  rfl
def fw_nw {ρ : Type} (l0 mc ms : Nat) (L : List (Nat × Nat)) (kd : Nat × Nat) (f : Nat → List (Nat × Nat) → Option ρ) : Option ρ := if L.length < 1000 ∧ L.length - l0 + 1 ≤ mc ∧ fw_ss l0 L + fw_sz kd ≤ ms then f L.length (L ++ [kd]) else none
theorem fw_nw_some {ρ : Type} {l0 mc ms : Nat} {L : List (Nat × Nat)} {kd : Nat × Nat} {f : Nat → List (Nat × Nat) → Option ρ} {r : ρ} (h : fw_nw l0 mc ms L kd f = some r) : ∃ a L2, L.length = a ∧ L2 = L ++ [kd] ∧ a < 1000 ∧ L.length - l0 + 1 ≤ mc ∧ fw_ss l0 L + fw_sz kd ≤ ms ∧ f a L2 = some r := by
  unfold fw_nw at h
  by_cases hb : L.length < 1000 ∧ L.length - l0 + 1 ≤ mc ∧ fw_ss l0 L + fw_sz kd ≤ ms
  · rw [if_pos hb] at h
    exact ⟨_, _, rfl, rfl, hb.1, hb.2.1, hb.2.2, h⟩
  · rw [if_neg hb] at h
    cases h
def fw_bc {ρ : Type} (l0 mc ms cm cs : Nat) (L : List (Nat × Nat)) (q : Option (List (Nat × Nat) × (Nat → Nat → Int32))) (f : List (Nat × Nat) → (Nat → Nat → Int32) → Option ρ) : Option ρ := match q with
  | none => none
  | some r => if L.isPrefixOf r.1 = true ∧ r.1.length = L.length + cm ∧ fw_ss l0 r.1 = fw_ss l0 L + cs ∧ L.length - l0 + cm ≤ mc ∧ fw_ss l0 L + cs ≤ ms then f r.1 r.2 else none
theorem fw_bc_some {ρ : Type} {l0 mc ms cm cs : Nat} {L : List (Nat × Nat)} {q : Option (List (Nat × Nat) × (Nat → Nat → Int32))} {f : List (Nat × Nat) → (Nat → Nat → Int32) → Option ρ} {r : ρ} (h : fw_bc l0 mc ms cm cs L q f = some r) : ∃ L2 I2, q = some (L2, I2) ∧ (∃ ext, L2 = L ++ ext) ∧ L2.length = L.length + cm ∧ fw_ss l0 L2 = fw_ss l0 L + cs ∧ (L.length - l0 + cm ≤ mc ∧ fw_ss l0 L + cs ≤ ms) ∧ f L2 I2 = some r := by
  cases q with
  | none => cases h
  | some q =>
    unfold fw_bc at h
    dsimp only at h
    by_cases hb : L.isPrefixOf q.1 = true ∧ q.1.length = L.length + cm ∧ fw_ss l0 q.1 = fw_ss l0 L + cs ∧ L.length - l0 + cm ≤ mc ∧ fw_ss l0 L + cs ≤ ms
    · rw [if_pos hb] at h
      obtain ⟨ext, he⟩ := List.isPrefixOf_iff_prefix.mp hb.1
      exact ⟨q.1, q.2, rfl, ⟨ext, he.symm⟩, hb.2.1, hb.2.2.1, hb.2.2.2, h⟩
    · rw [if_neg hb] at h
      cases h
theorem fw_grow {g : Nat → Nat} {n : Nat} {M M' : Nat → va_E} (h : ∀ k, k < n → M' k = M k) : fw_W g (n + 1) M' = fw_W g n M ++ [(g n, M' n)] := by
  unfold fw_W
  rw [List.range_succ, List.map_append]
  congr 1
  exact List.map_congr_left (fun k hk => by rw [h k (List.mem_range.mp hk)])
theorem fw_D_lin {A : Nat → Prop} {g : Nat → Nat} {b n : Nat} {M : Nat → va_E} (hg : ∀ k, g k = b + k) (hA : ∀ k, k < n → A (g k)) : va_D A (fw_W g n M) := by
  refine ⟨fun i j x y hi hj hxy => ?_, fun k q hk => ?_⟩
  · obtain ⟨li, rfl⟩ := fw_at hi
    obtain ⟨lj, rfl⟩ := fw_at hj
    have h : g i = g j := hxy
    rw [hg, hg] at h
    omega
  · obtain ⟨lk, rfl⟩ := fw_at hk
    exact hA k lk
theorem fw_alloc {D : va_G} {aC : Nat → ClassId} {A : Nat → Prop} {g : Nat → Nat} {b a : Nat} {L L2 : List (Nat × Nat)} {kd : Nat × Nat} {i0 : Nat → Int32} {I I2 : Nat → Nat → Int32} {H H1 : Heap} (hg : ∀ k, g k = b + k) (ea : L.length = a) (eL : L2 = L ++ [kd]) (eI : I2 = va_up I a i0) (hz : H.size = b + L.length) (hA : A (b + L.length))
    (hW : fw_Wd D aC A g L.length (fw_k L) I H) (o1 : ∀ q, q < b + L.length → H1[q]? = H[q]?) (hat : va_at D fw_cl (b + L.length, fw_sh aC g kd i0) H1) : fw_Wd D aC A g L2.length (fw_k L2) I2 H1 := by
  subst ea
  subst eL
  subst eI
  have e : fw_W g (L ++ [kd]).length (fw_M aC g (fw_k (L ++ [kd])) (va_up I L.length i0)) = fw_W g L.length (fw_M aC g (fw_k L) I) ++ [(b + L.length, fw_sh aC g kd i0)] := by
    rw [List.length_append]
    show fw_W g (L.length + 1) _ = _
    rw [fw_grow (M := fw_M aC g (fw_k L) I) (fun k hk => by
      unfold fw_M
      rw [fw_k_app hk, va_up_ne _ _ (Nat.ne_of_lt hk)])]
    congr 2
    unfold fw_M
    rw [fw_k_at, va_up_self, hg]
  unfold fw_Wd
  rw [e]
  refine ⟨(hW.1.kept (fun k x hx => o1 x.1 (by rw [← hz]; exact (hW.1 k x hx).lt))).app (fun k x hx => ?_), hW.2.push hW.1 hz.symm hA⟩
  have h1 : k < 1 := (List.getElem?_eq_some_iff.mp hx).1
  rw [show k = 0 by omega] at hx
  cases hx
  exact hat
section FWN
variable {p : Program} {l : Launch} {e : Env} {R : Room} {s : State} {m : MethodId} {args : Array Value} {below : List Frame} {meth : Method} {c : Code} {cells slots : Nat} {Q : State → Prop}
variable {cc : ByteArray} {nL : Nat} {Ts : List Cond} {own : String} {D : va_G} {aC : Nat → ClassId} {A : Nat → Prop} {g : Nat → Nat} {L L2 : List (Nat × Nat)} {I I2 : Nat → Nat → Int32} {pc pc' : Nat} {lv : List (Nat × Value)} {st : List Value} {Wd : Heap → Prop} {b l0 k0 c0 a : Nat}
theorem fw_size {T : State} {H : Heap} {locs : List Loc} (hg : ∀ k, g k = b + k) (hsz : s.heap.size = b + l0) (hk0 : (fw_k L k0).1 = c0) (hc0 : c0 < 99) (hl : l0 ≤ L.length) (hW : fw_Wd D aC A g L.length (fw_k L) I H) (hT : T.heap = H) (X : Stand p l e R s m args below meth c T locs (L.length - l0) slots) : H.size = b + L.length := by
  have h1 := X.heapSize
  have h2 : k0 < L.length := fw_k_lt k0 (by rw [hk0]; exact hc0)
  have h3 := (hW.1 (L.length - 1) _ (fw_get (by omega))).lt
  have h4 : g (L.length - 1) < H.size := h3
  rw [hg] at h4
  rw [hT, hsz] at h1
  omega
theorem fw_S1 {H H1 : Heap} {locs : List Loc} {h : Nat} (hz : H.size = h) (hS : va_S A s.heap H locs) (z1 : H1.size = h + 1) (o1 : ∀ q, q < h → H1[q]? = H[q]?) : va_S A s.heap H1 locs := by
  subst hz
  exact ⟨Nat.le_trans hS.1 (by omega), fun x h1 h2 => (o1 x (Nat.lt_of_lt_of_le h1 hS.1)).trans (hS.2.1 x h1 h2), hS.2.2⟩
theorem fx_new (C : fw_C p m c cc nL s args Ts own D aC L.length (fw_k L)) (hg : ∀ k, g k = b + k) (hsz : s.heap.size = b + l0) (hA : ∀ q, s.heap.size ≤ q → A q) (hk0 : (fw_k L k0).1 = c0) (hc0 : c0 < 99) (hl : l0 ≤ L.length) {ci N index : Nat} {T : u_T} {Cn : String} (ea : L.length = a) (eL : L2 = L ++ [(ci, 0)]) (eI : I2 = va_up I a (fw_d ci)) (h1 : L.length - l0 + 1 ≤ R.cells) (h2 : fw_ss l0 L + fw_sz (ci, 0) ≤ R.slots)
    (hc : ci < 20) (hcl : fw_cl[ci]? = some (Cn, T, N)) (hN : fw_nf ci = N) (hin : ∀ w ∈ u_ws Cn T N, w ∈ Ts) (ty0 : Nat → FieldType) (hty : ∀ k, k < N → parseFieldDescriptor (T k).2.2.1 = some (ty0 k)) (hdf : ∀ (g : Nat → Nat) (j : Nat), j < N → defaultValue (ty0 j) = vp_V (fw_fs g ci (fw_d ci)) j)
    (hclk : (Cond.classLink own index Cn).before args s = true) (hinst : (Cond.instantiable Cn N).before args s = true) (hini : (Cond.initialized Cn).before args s = true) (hdg : decode cc pc = .ok (.new index, 3)) (hp : pc + 3 = pc')
    (kk : fw_G p l e R s m args below meth c (L2.length - l0) (fw_ss l0 L2) Q nL D aC A g L2.length (fw_k L2) I2 pc' lv (.ref (g a) :: st)) : fw_G p l e R s m args below meth c (L.length - l0) (fw_ss l0 L) Q nL D aC A g L.length (fw_k L) I pc lv st := by
  subst hp
  intro ls H locs hlv hW hS T0 hT X
  have hz := fw_size hg hsz hk0 hc0 hl hW hT X
  have e2 : fw_sz (ci, 0) = N := (if_pos hc).trans hN
  have hKn := C.2.1.1 ci _ hcl
  have w : W p l e R s m args below meth c H locs (L.length - l0) (fw_ss l0 L) Q (F0 m pc ls st) := by
    refine W.newcK C.1.1 C.1.2.1 C.1.2.2.2.1 hclk hinst hini rfl hdg h1 (by rw [← e2]; exact h2) hKn.2.1 hz (fun H1 kC hkC e1 z1 o1 => ?_)
    have k1 := kk ls H1 locs hlv (fw_alloc hg ea eL eI hz (hA _ (by rw [hsz]; omega)) hW o1 (by
      rw [show fw_sh aC g (ci, 0) (fw_d ci) = .inr (ci, fw_fs g ci (fw_d ci)) from if_pos hc]
      exact ⟨_, hcl, (u_born ty0 C.1.2.2.2.2 hin hKn hkC e1 hty).to (hdf g)⟩)) (fw_S1 hz hS z1 o1)
    rw [fw_cs_app eL hl, fw_ss_app eL hl, e2, hg, ← ea] at k1
    exact k1
  exact w T0 hT X
theorem fx_newa {code N : Nat} {ty : FieldType} {atype : ArrayType} {i0 : Nat → Int32} {n : Int32} (C : fw_C p m c cc nL s args Ts own D aC L.length (fw_k L)) (hg : ∀ k, g k = b + k) (hsz : s.heap.size = b + l0) (hA : ∀ q, s.heap.size ≤ q → A q) (hk0 : (fw_k L k0).1 = c0) (hc0 : c0 < 99) (hl : l0 ≤ L.length) (ea : L.length = a) (eL : L2 = L ++ [(code, N)]) (eI : I2 = va_up I a i0) (h1 : L.length - l0 + 1 ≤ R.cells) (h2 : fw_ss l0 L + fw_sz (code, N) ≤ R.slots)
    (hc : ¬ code < 20) (hty : newarray.typeOf atype = ty) (hRA : s.vm.findClass ("[" ++ ty.toString) = some (aC code)) (hcell : ∀ (g : Nat → Nat) (cA : ClassId), arrV cA N (fun _ => defaultValue ty) = vp_cell cA (N, fw_ct g code i0)) (hby : componentBytes ty ≤ 8) (harr : (Cond.arrayClass ty).before args s = true) (hn : ¬ n < 0) (hN : n.toNatClampNeg = N) (hN2 : N ≤ 1000) (hdg : decode cc pc = .ok (.newarray atype, 2)) (hp : pc + 2 = pc')
    (kk : fw_G p l e R s m args below meth c (L2.length - l0) (fw_ss l0 L2) Q nL D aC A g L2.length (fw_k L2) I2 pc' lv (.ref (g a) :: st)) : fw_G p l e R s m args below meth c (L.length - l0) (fw_ss l0 L) Q nL D aC A g L.length (fw_k L) I pc lv (.int n :: st) := by
  subst hp
  subst hty
  intro ls H locs hlv hW hS T0 hT X
  have hz := fw_size hg hsz hk0 hc0 hl hW hT X
  have e2 : fw_sz (code, N) = N := if_neg hc
  have w : W p l e R s m args below meth c H locs (L.length - l0) (fw_ss l0 L) Q (F0 m pc ls (.int n :: st)) := by
    refine va_newaK C.1.1 C.1.2.1 harr rfl hdg rfl hn hN (Nat.le_trans (Nat.mul_le_mul hN2 hby) (by decide)) h1 (by rw [e2] at h2; exact h2) hz (fun H1 cA e1 z1 o1 hAr hNm => ?_)
    have hcA : cA = aC code := Option.some.inj (hNm.symm.trans hRA)
    subst hcA
    have k1 := kk ls H1 locs hlv (fw_alloc hg ea eL eI hz (hA _ (by rw [hsz]; omega)) hW o1 (by
      rw [show fw_sh aC g (code, N) i0 = .inl (aC code, N, fw_ct g code i0) from if_neg hc]
      show H1[b + L.length]? = some (vp_cell _ _)
      rw [← hcell]
      exact e1)) (fw_S1 hz hS z1 o1)
    rw [fw_cs_app eL hl, fw_ss_app eL hl, e2, hg, ← ea] at k1
    exact k1
  exact w T0 hT X
theorem fw_cell20 {N : Nat} (g : Nat → Nat) (cA : ClassId) : arrV cA N (fun _ => defaultValue FieldType.int) = vp_cell cA (N, fw_ct g 20 (fun _ => 0)) := rfl
theorem fw_cell21 {N : Nat} (g : Nat → Nat) (cA : ClassId) : arrV cA N (fun _ => defaultValue FieldType.boolean) = vp_cell cA (N, fw_ct g 21 (fun _ => 0)) := rfl
theorem fx_anew {code N index : Nat} {Cn : String} {n : Int32} (C : fw_C p m c cc nL s args Ts own D aC L.length (fw_k L)) (hg : ∀ k, g k = b + k) (hsz : s.heap.size = b + l0) (hA : ∀ q, s.heap.size ≤ q → A q) (hk0 : (fw_k L k0).1 = c0) (hc0 : c0 < 99) (hl : l0 ≤ L.length) (ea : L.length = a) (eL : L2 = L ++ [(code, N)]) (eI : I2 = va_up I a (fun _ => -1)) (h1 : L.length - l0 + 1 ≤ R.cells) (h2 : fw_ss l0 L + fw_sz (code, N) ≤ R.slots)
    (hc : 22 < code) (hRA : s.vm.findClass ("[" ++ (FieldType.object Cn).toString) = some (aC code)) (hover : va_AO Cn s) (hclk : (Cond.classLink own index Cn).before args s = true) (hn : ¬ n < 0) (hN : n.toNatClampNeg = N) (hN2 : N ≤ 1000) (hdg : decode cc pc = .ok (.anewarray index, 3)) (hp : pc + 3 = pc')
    (kk : fw_G p l e R s m args below meth c (L2.length - l0) (fw_ss l0 L2) Q nL D aC A g L2.length (fw_k L2) I2 pc' lv (.ref (g a) :: st)) : fw_G p l e R s m args below meth c (L.length - l0) (fw_ss l0 L) Q nL D aC A g L.length (fw_k L) I pc lv (.int n :: st) := by
  subst hp
  subst hN
  intro ls H locs hlv hW hS T0 hT X
  have hz := fw_size hg hsz hk0 hc0 hl hW hT X
  have e2 : fw_sz (code, n.toNatClampNeg) = n.toNatClampNeg := if_neg (by show ¬ code < 20; omega)
  have w : W p l e R s m args below meth c H locs (L.length - l0) (fw_ss l0 L) Q (F0 m pc ls (.int n :: st)) := by
    refine W.anew C.1.1 C.1.2.1 C.1.2.2.2.1 hclk (va_AO.use hover) rfl hdg rfl hn (Nat.le_trans (Nat.mul_le_mul_right 4 hN2) (by decide)) h1 (by rw [e2] at h2; exact h2) (fun cA kA comp f1 f2 f3 f4 => ?_)
    have hcA : cA = aC code := Option.some.inj (f1.symm.trans hRA)
    subst hcA
    generalize hH1 : H.push ({ cls := aC code, slots := Array.replicate n.toNatClampNeg .null, vm := .none } : Cell) = H1
    have z1 : H1.size = b + L.length + 1 := by rw [← hH1, Array.size_push, hz]
    have e1 : H1[b + L.length]? = some (arrV (aC code) n.toNatClampNeg (fun _ => .null)) := by rw [← hH1, ← hz, Array.getElem?_push_size, ← arrV_new]
    have o1 : ∀ q : Nat, q < b + L.length → H1[q]? = H[q]? := fun q hq => by rw [← hH1, Array.getElem?_push, if_neg (by rw [hz]; exact Nat.ne_of_lt hq)]
    have k1 := kk ls H1 locs hlv (fw_alloc hg ea eL eI hz (hA _ (by rw [hsz]; omega)) hW o1 (by
      rw [show fw_sh aC g (code, n.toNatClampNeg) (fun _ => -1) = .inl (aC code, n.toNatClampNeg, fw_ct g code (fun _ => -1)) from if_neg (by show ¬ code < 20; omega)]
      show H1[b + L.length]? = some (vp_cell _ _)
      rw [show fw_ct g code (fun _ => -1) = .inr (.inr (.inr (.inr (fun _ => none)))) by
        unfold fw_ct
        rw [if_neg (by omega), if_neg (by omega)]
        rfl]
      rw [vp_cell_q]
      exact e1)) (fw_S1 hz hS z1 o1)
    rw [fw_cs_app eL hl, fw_ss_app eL hl, e2, hg, ← ea, ← hz] at k1
    exact k1
  exact w T0 hT X
theorem fx_objInit (C : CallFix p m c cc nL s args Ts own) {idx x : Nat} (hlink : (Cond.methodLink own idx Lib.objectInit).before args s = true) (hinst : (Cond.instanceMethod Lib.objectInit).before args s = true) (hcode : (Cond.code Lib.objectInit ⟨#[0xb1]⟩ 1 none).before args s = true) (hfr : 1 ≤ R.frames) (hlo : (st.map fun v => v.category).sum + 12 ≤ R.locals) (hdg : decode cc pc = .ok (.invokespecial idx, 3)) (hp : pc + 3 = pc')
    (kk : fw_H p l e R s m args below meth c cells slots Q nL A Wd pc' lv st) : fw_H p l e R s m args below meth c cells slots Q nL A Wd pc lv (.ref x :: st) := by
  subst hp
  intro ls H locs hlv hW hS
  exact W.objInit C.1 C.2.1 C.2.2.2.1 hlink hinst hcode rfl (hlv.1.trans C.2.2.1.symm) rfl hdg hfr (by simpa [JFrame.monitorRoom] using hlo) (kk ls H locs hlv hW hS)
/-- the contract of a constructor: over the memory (L, I) it ends in Rr -/
def fw_Mc (l : Launch) (y : MethodName) (ws : List Cond) (rm : Room) (D : va_G) (aC : Nat → ClassId) (g : Nat → Nat) (b : Nat) (L : List (Nat × Nat)) (I : Nat → Nat → Int32) (av : List Value) (Rr : List (Nat × Nat) × (Nat → Nat → Int32)) (mc ms : Nat) : Prop :=
  Met l y ws rm (fw_pre D aC g L.length (fw_k L) I (b + L.length) av) (va_Qv (fun u => u = Rr) (fun u t => fw_B D aC g u.1.length (fw_k u.1) u.2 t) (fw_A g L.length (b + L.length))) mc ms (fw_A g L.length (b + L.length))
theorem fw_widen {H : Heap} {locs : List Loc} {k n : Nat} {f : JFrame} (h1 : cells ≤ k) (h2 : slots ≤ n) (kk : W p l e R s m args below meth c H locs k n Q f) : W p l e R s m args below meth c H locs cells slots Q f := fun T hT X => kk T hT (stand_widen X h1 h2)
theorem fw_ofGc {y : MethodName} {ws ws' : List Cond} {rm : Room} {maxL mc ms : Nat} {av : List Value} {Rr : List (Nat × Nat) × (Nat → Nat → Int32)} (hy : plainName y.cls = true) (hg : ∀ k, g k = b + k) (hl0 : L.length = l0) (hlen : (lg_sl av).length ≤ maxL) (hw : ws = Cond.code y cc maxL none :: ws') (hyn : y.name = "<init>")
    (body : ∀ (p : Program) (e : Env) (s : State) (m : MethodId) (args : Array Value) (below : List Frame) (meth : Method) (c : Code) (A : Nat → Prop) (Q : State → Prop), (∀ L' : List (Nat × Nat), fw_C p m c cc maxL s args ws y.cls D aC L'.length (fw_k L')) → fw_N s → (∀ q, s.heap.size ≤ q → A q) → s.heap.size = b + l0 → meth.name = "<init>" →
      (∀ (L' : List (Nat × Nat)) (I' : Nat → Nat → Int32) (lv : List (Nat × Value)) (pc : Nat), decode cc pc = .ok (.return_, 1) → L'.length - l0 ≤ mc → fw_ss l0 L' ≤ ms → some (L', I') = some Rr → fw_G p l e rm s m args below meth c (L'.length - l0) (fw_ss l0 L') Q maxL D aC A g L'.length (fw_k L') I' pc lv []) →
      fw_G p l e rm s m args below meth c (L.length - l0) (fw_ss l0 L) Q maxL D aC A g L.length (fw_k L) I 0 (lv_args 0 av) []) : fw_Mc l y ws rm D aC g b L I av Rr mc ms := by
  refine Met.ofW (cc := cc) (maxL := maxL) (ret := none) hy hw ?_
  intro p e s m args below meth c s₁ B hml hv
  obtain ⟨rfl, hsz, ⟨hP, hK, hN⟩, hD0⟩ := hv
  have hts := atoms_spec (ws := ws) B.pre
  have hown : s.vm.findClass y.cls = some m.cls := findClass_of_methodNamed B.named
  have hlocks := B.notSynchronized
  have hr := B.returns
  have hin : meth.name = "<init>" := (name_of_methodNamed B.named B.method).1.trans hyn
  have hD := fw_D_self (sz := b + L.length) hD0
  have hC : ∀ L' : List (Nat × Nat), fw_C p m c cc maxL s av.toArray ws y.cls D aC L'.length (fw_k L') := fun L' => ⟨⟨B.exec, B.bytes, hml, hown, hts⟩, hK, fw_k_lt⟩
  have hl := lv_entry av (n := maxL) hlen
  rw [lg_entry_eq]
  have k1 := body p e s m av.toArray below meth c (fw_A g L.length (b + L.length)) (MQ below (va_Qv (fun u => u = Rr) (fun u t => fw_B D aC g u.1.length (fw_k u.1) u.2 t) (fw_A g L.length (b + L.length))) av.toArray s mc ms (fw_A g L.length (b + L.length))) hC hN (fun q h => Or.inr (by rw [hsz] at h; exact h)) (by rw [hsz, hl0]) hin ?_ _ s.heap [] hl ⟨hP, hD⟩ va_S.rf
  · rw [show L.length - l0 = 0 by omega, ← hl0, fw_ss_0] at k1
    exact k1
  · intro L' I' lv pc hdg h1 h2 hR ls H locs hlv ⟨hP', hD'⟩ hS
    refine fw_widen h1 h2 (W.vret B.exec B.bytes hr (fun t ht hW => ⟨⟨(L', I'), rfl, Option.some.inj hR, by rw [ht]; exact hP', va_K.moved hW.alike hK, fw_N.warm hW hN⟩, hS.F ht⟩) hS.2.2 hdg)
theorem fx_ctorN {I2 : Nat → Nat → Int32} {mc ms index na maxL : Nat} {ext : List (Nat × Nat)} {k : Nat} {y : MethodName} {host : String} {bytes : ByteArray} {ws : List Cond} {rm : Room} {As st0 : List Value} (C : fw_C p m c cc nL s args Ts own D aC L.length (fw_k L)) (hN : fw_N s) (hg : ∀ k, g k = b + k) (hsz : s.heap.size = b + l0) (hA : ∀ q, s.heap.size ≤ q → A q) (hk0 : (fw_k L k0).1 = c0) (hc0 : c0 < 99) (hl : l0 ≤ L.length) (eL : L2 = L ++ ext) (hn : L2.length = L.length + mc) (hs : fw_ss l0 L2 = fw_ss l0 L + ms) (hcs : L.length - l0 + mc ≤ R.cells ∧ fw_ss l0 L + ms ≤ R.slots)
    (hM : fw_Mc l y ws rm D aC g b L I (.ref (g k) :: As) (L2, I2) mc ms) (cw : va_CN R s args own index y host bytes maxL none ws rm mc ms na ∧ y.name = "<init>" ∧ (Cond.instanceMethod y).before args s = true) (hna : As.length = na) (hst : st0 = As.reverse ++ .ref (g k) :: st) (hrm : (st.map fun v => v.category).sum ≤ 8) (hdg : decode cc pc = .ok (.invokespecial index, 3)) (hp : pc + 3 = pc')
    (kk : fw_G p l e R s m args below meth c (L2.length - l0) (fw_ss l0 L2) Q nL D aC A g L2.length (fw_k L2) I2 pc' lv st) : fw_G p l e R s m args below meth c (L.length - l0) (fw_ss l0 L) Q nL D aC A g L.length (fw_k L) I pc lv st0 := by
  subst hp
  intro ls H locs hlv hW hS T0 hT X
  have hz := fw_size hg hsz hk0 hc0 hl hW hT X
  obtain ⟨hP, hD⟩ := hW
  have hF : ∀ q, fw_A g L.length (b + L.length) q → A q := by
    have h := fw_free hD hS hA
    rw [hz] at h
    exact h
  refine va_callv (va_runIN (As := As) (rest := st) C.1 hM cw ⟨fw_pre_blind, fun U hU hW => ⟨rfl, by rw [hU]; exact hz, ⟨by rw [hU]; exact hP, va_K.moved hW.alike C.2.1, fw_N.warm hW hN⟩, hD.weaken (fun _ _ _ _ => trivial)⟩⟩ rfl hna hlv.1 hst (lv_room hrm) hdg hcs) hS (fun q _ h => hF q h) hF (fun u t H1 locs1 ht hvm hw hB hz1 hk1 hS1 => ?_) T0 hT X
  cases hw
  have k1 := kk ls H1 locs1 hlv ⟨by rw [← ht]; exact hB.1, fw_D_lin hg (fun k hk => by
    by_cases h : k < L.length
    · exact hD.2 k _ (fw_get h)
    · exact hA _ (by rw [hg]; omega))⟩ hS1
  rw [hs, show L2.length - l0 = L.length - l0 + mc by omega] at k1
  exact k1
end FWN
theorem fw_tag {a b : Nat} {x y : Int32 × (Nat → Nat → Int32)} {P : Prop} (h : some (a, x) = some (b, y)) (hab : a ≠ b) : P := by
  cases h
  exact absurd rfl hab
theorem fw_tag0 {v : Int32} {I : Nat → Nat → Int32} {Rr : Int32 × (Nat → Nat → Int32)} (h : some ((0 : Nat), v, I) = some (0, Rr)) : some (v, I) = some Rr := by
  cases h
  rfl
theorem fw_RA20 {U : State} {cA : ClassId} (h : va_RA U cA .int) : U.vm.findClass ("[" ++ FieldType.int.toString) = some cA := h
theorem fw_RA21 {U : State} {cA : ClassId} (h : va_RA U cA .boolean) : U.vm.findClass ("[" ++ FieldType.boolean.toString) = some cA := h
theorem fw_RAo {U : State} {cA : ClassId} {Cn : String} (h : va_RA U cA (.object Cn)) : U.vm.findClass ("[" ++ (FieldType.object Cn).toString) = some cA := by
  obtain ⟨_, _, _, _, _, h4⟩ := h
  exact h4
theorem df_CH : ∀ (g : Nat → Nat) (j : Nat), j < 3 → defaultValue (ty_CH j) = vp_V (fw_fs g 0 (fw_d 0)) j := by
  intro g j hj
  match j, hj with
  | 0, _ => rfl
  | 1, _ => rfl
  | 2, _ => rfl
  | k + 3, hk => exact absurd hk (by omega)
theorem df_MS : ∀ (g : Nat → Nat) (j : Nat), j < 7 → defaultValue (ty_MS j) = vp_V (fw_fs g 1 (fw_d 1)) j := by
  intro g j hj
  match j, hj with
  | 0, _ => rfl
  | 1, _ => rfl
  | 2, _ => rfl
  | 3, _ => rfl
  | 4, _ => rfl
  | 5, _ => rfl
  | 6, _ => rfl
  | k + 7, hk => exact absurd hk (by omega)
theorem df_RC : ∀ (g : Nat → Nat) (j : Nat), j < 7 → defaultValue (ty_RC j) = vp_V (fw_fs g 2 (fw_d 2)) j := by
  intro g j hj
  match j, hj with
  | 0, _ => rfl
  | 1, _ => rfl
  | 2, _ => rfl
  | 3, _ => rfl
  | 4, _ => rfl
  | 5, _ => rfl
  | 6, _ => rfl
  | k + 7, hk => exact absurd hk (by omega)
theorem df_ST : ∀ (g : Nat → Nat) (j : Nat), j < 6 → defaultValue (ty_ST j) = vp_V (fw_fs g 3 (fw_d 3)) j := by
  intro g j hj
  match j, hj with
  | 0, _ => rfl
  | 1, _ => rfl
  | 2, _ => rfl
  | 3, _ => rfl
  | 4, _ => rfl
  | 5, _ => rfl
  | k + 6, hk => exact absurd hk (by omega)
theorem df_WR : ∀ (g : Nat → Nat) (j : Nat), j < 5 → defaultValue (ty_WR j) = vp_V (fw_fs g 4 (fw_d 4)) j := by
  intro g j hj
  match j, hj with
  | 0, _ => rfl
  | 1, _ => rfl
  | 2, _ => rfl
  | 3, _ => rfl
  | 4, _ => rfl
  | k + 5, hk => exact absurd hk (by omega)
theorem df_FL : ∀ (g : Nat → Nat) (j : Nat), j < 10 → defaultValue (ty_FL j) = vp_V (fw_fs g 5 (fw_d 5)) j := by
  intro g j hj
  match j, hj with
  | 0, _ => rfl
  | 1, _ => rfl
  | 2, _ => rfl
  | 3, _ => rfl
  | 4, _ => rfl
  | 5, _ => rfl
  | 6, _ => rfl
  | 7, _ => rfl
  | 8, _ => rfl
  | 9, _ => rfl
  | k + 10, hk => exact absurd hk (by omega)
theorem df_MD : ∀ (g : Nat → Nat) (j : Nat), j < 25 → defaultValue (ty_MD j) = vp_V (fw_fs g 6 (fw_d 6)) j := by
  intro g j hj
  match j, hj with
  | 0, _ => rfl
  | 1, _ => rfl
  | 2, _ => rfl
  | 3, _ => rfl
  | 4, _ => rfl
  | 5, _ => rfl
  | 6, _ => rfl
  | 7, _ => rfl
  | 8, _ => rfl
  | 9, _ => rfl
  | 10, _ => rfl
  | 11, _ => rfl
  | 12, _ => rfl
  | 13, _ => rfl
  | 14, _ => rfl
  | 15, _ => rfl
  | 16, _ => rfl
  | 17, _ => rfl
  | 18, _ => rfl
  | 19, _ => rfl
  | 20, _ => rfl
  | 21, _ => rfl
  | 22, _ => rfl
  | 23, _ => rfl
  | 24, _ => rfl
  | k + 25, hk => exact absurd hk (by omega)

