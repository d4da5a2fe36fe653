theorem wp_1_16 : (Jvm.Cond.classLink "FencedLedgerLaw" (8 : Nat) "FencedLedger") ∈ fw_ws := List.mem_filter.mpr ⟨fw_in1 (List.mem_of_getElem? (l := tables_1_1) (i := 16) rfl), rfl⟩
theorem wp_1_18 : (Jvm.Cond.methodLink "FencedLedgerLaw" (28 : Nat) ({ cls := "FencedLedger", name := "<init>", desc := "(III)V" } : Jvm.MethodName)) ∈ fw_ws := List.mem_filter.mpr ⟨fw_in1 (List.mem_of_getElem? (l := tables_1_1) (i := 18) rfl), rfl⟩
theorem wp_1_19 : (Jvm.Cond.instanceMethod ({ cls := "FencedLedger", name := "<init>", desc := "(III)V" } : Jvm.MethodName)) ∈ fw_ws := List.mem_filter.mpr ⟨fw_in1 (List.mem_of_getElem? (l := tables_1_1) (i := 19) rfl), rfl⟩
theorem wp_1_20 : (Jvm.Cond.code ({ cls := "FencedLedger", name := "<init>", desc := "(III)V" } : Jvm.MethodName) prog_1_method_1_code (5 : Nat) (Option.none : Option Jvm.ClassFile.FieldType)) ∈ fw_ws := List.mem_filter.mpr ⟨fw_in1 (List.mem_of_getElem? (l := tables_1_1) (i := 20) rfl), rfl⟩
theorem wp_2_216 : (Jvm.Cond.methodLink "FencedLedgerLaw" (22 : Nat) ({ cls := "FencedLedgerLaw", name := "cell", desc := "([II)I" } : Jvm.MethodName)) ∈ fw_ws := List.mem_filter.mpr ⟨fw_in2 (List.mem_of_getElem? (l := tables_1_2) (i := 216) rfl), rfl⟩
theorem wp_2_217 : (Jvm.Cond.static ({ cls := "FencedLedgerLaw", name := "cell", desc := "([II)I" } : Jvm.MethodName)) ∈ fw_ws := List.mem_filter.mpr ⟨fw_in2 (List.mem_of_getElem? (l := tables_1_2) (i := 217) rfl), rfl⟩
theorem wp_2_218 : (Jvm.Cond.code ({ cls := "FencedLedgerLaw", name := "cell", desc := "([II)I" } : Jvm.MethodName) method_2_code (2 : Nat) (Option.some Jvm.ClassFile.FieldType.int)) ∈ fw_ws := List.mem_filter.mpr ⟨fw_in2 (List.mem_of_getElem? (l := tables_1_2) (i := 218) rfl), rfl⟩
theorem wp_3_110 : (Jvm.Cond.classLink "FencedLedgerLaw" (31 : Nat) "FencedLedgerModel") ∈ fw_ws := List.mem_filter.mpr ⟨fw_in3 (List.mem_of_getElem? (l := tables_1_3) (i := 110) rfl), rfl⟩
theorem wp_3_112 : (Jvm.Cond.methodLink "FencedLedgerLaw" (33 : Nat) ({ cls := "FencedLedgerModel", name := "<init>", desc := "(III)V" } : Jvm.MethodName)) ∈ fw_ws := List.mem_filter.mpr ⟨fw_in3 (List.mem_of_getElem? (l := tables_1_3) (i := 112) rfl), rfl⟩
theorem wp_3_113 : (Jvm.Cond.instanceMethod ({ cls := "FencedLedgerModel", name := "<init>", desc := "(III)V" } : Jvm.MethodName)) ∈ fw_ws := List.mem_filter.mpr ⟨fw_in3 (List.mem_of_getElem? (l := tables_1_3) (i := 113) rfl), rfl⟩
theorem wp_3_114 : (Jvm.Cond.code ({ cls := "FencedLedgerModel", name := "<init>", desc := "(III)V" } : Jvm.MethodName) prog_8_method_1_code (5 : Nat) (Option.none : Option Jvm.ClassFile.FieldType)) ∈ fw_ws := List.mem_filter.mpr ⟨fw_in3 (List.mem_of_getElem? (l := tables_1_3) (i := 114) rfl), rfl⟩
theorem wp_4_103 : (Jvm.Cond.arrayClass Jvm.ClassFile.FieldType.long) ∈ fw_ws := List.mem_filter.mpr ⟨fw_in4 (List.mem_of_getElem? (l := tables_1_4) (i := 103) rfl), rfl⟩
def lw_cell (xs : Nat → Int32) (L k : Nat) : Int32 := if k < L then xs k else 0
def w_LW_cell : List Cond := .code y_LW_cell b_LW_cell 2 (some .int) :: fw_ws
abbrev r_LW_cell : Room := { frames := 0, cells := 0, slots := 0, locals := 0 }
def fw_Pcell (b L : Nat) (xs : Nat → Int32) (k : Nat) : Array Value → State → Prop := va_Pc [.ref b, .int (nI k)] (fun U => va_X b L xs U U.heap ∧ b < U.heap.size)
theorem ct_LW_cell (l : Launch) (b L : Nat) (xs : Nat → Int32) (k : Nat) (hL : L ≤ 1539) (hk : k ≤ 10) : Met l y_LW_cell w_LW_cell r_LW_cell (fw_Pcell b L xs k) (fun _ st o t => o = .returned (some (.int (lw_cell xs L k))) ∧ t.heap = st.heap) 0 0 (fun _ => False) := by
  refine Met.ofW (cc := b_LW_cell) (maxL := 2) (ret := some .int) (ws' := fw_ws) (by decide +kernel) rfl ?_
  intro p e s m args below meth c s₁ B hml hv
  obtain ⟨rfl, hX, hbl⟩ := hv
  have hts := atoms_spec (ws := w_LW_cell) B.pre
  have hown : s.vm.findClass y_LW_cell.cls = some m.cls := findClass_of_methodNamed B.named
  have hlocks := B.notSynchronized
  have hr := B.returns
  have hF : CallFix p m c b_LW_cell 2 s ([.ref b, .int (nI k)] : List Value).toArray w_LW_cell y_LW_cell.cls := ⟨B.exec, B.bytes, hml, hown, hts⟩
  have hl := lv_entry [.ref b, .int (nI k)] (n := 2) (Nat.le_of_ble_eq_true rfl)
  rw [lg_entry_eq]
  have end_ : ∀ (v : Int32), v = lw_cell xs L k → fw_H p l e r_LW_cell s m ([.ref b, .int (nI k)] : List Value).toArray below meth c 0 0 (MQ below (fun _ st o t => o = .returned (some (.int (lw_cell xs L k))) ∧ t.heap = st.heap) ([.ref b, .int (nI k)] : List Value).toArray s 0 0 (fun _ => False)) 2 (fun _ => False) (fun H => H = s.heap) 13 [(0, .ref b), (1, .int (nI k))] [.int v] := by
    intro v hv ls H locs hl hW hS
    subst hv
    exact W.iret B.exec B.bytes hr (fun t ht hWm => ⟨rfl, ht.trans hW⟩) hS.2.2 d_LW_cell_13
  have main : fw_H p l e r_LW_cell s m ([.ref b, .int (nI k)] : List Value).toArray below meth c 0 0 (MQ below (fun _ st o t => o = .returned (some (.int (lw_cell xs L k))) ∧ t.heap = st.heap) ([.ref b, .int (nI k)] : List Value).toArray s 0 0 (fun _ => False)) 2 (fun _ => False) (fun H => H = s.heap) 0 [(0, .ref b), (1, .int (nI k))] [] := by
    refine fx_iload_n (pc' := 1) hF d_LW_cell_0 rfl 1 rfl rfl ?_
    refine fx_aload_n (pc' := 2) hF d_LW_cell_1 rfl 0 rfl rfl ?_
    refine fx_slen (pc' := 3) hF hX hbl (fun h => h) d_LW_cell_2 rfl ?_
    refine fx_icmp_ge hF (tgt := 12) (pc' := 6) d_LW_cell_3 rfl rfl (fun q => ?_) (fun q => ?_)
    · refine fx_iconst (pc' := 13) hF (v := (0 : Int32)) d_LW_cell_12 rfl rfl ?_
      refine end_ 0 ?_
      have h1 : L ≤ k := (nI_leI (a := L) (b := k) (by omega) (by omega)).mp q
      unfold lw_cell
      rw [if_neg (by omega)]
    · have h1 : k < L := Nat.not_le.mp (fun h => q ((nI_leI (a := L) (b := k) (by omega) (by omega)).mpr h))
      refine fx_aload_n (pc' := 7) hF d_LW_cell_6 rfl 0 rfl rfl ?_
      refine fx_iload_n (pc' := 8) hF d_LW_cell_7 rfl 1 rfl rfl ?_
      refine fx_sld (pc' := 9) hF hX hbl (fun h => h) (vp_in_nI h1 (by omega)) d_LW_cell_8 rfl ?_
      refine fx_goto hF (tgt := 13) d_LW_cell_9 rfl ?_
      refine end_ _ ?_
      unfold lw_cell
      rw [if_pos h1, nI_clamp (by omega)]
  exact main _ s.heap [] hl rfl va_S.rf
theorem lw_sub {w : Cond} (h : w ∈ fw_ws) : ∀ x ∈ w :: fw_ws, x ∈ fw_ws := by
  intro x hx
  rcases List.mem_cons.mp hx with rfl | hx
  · exact h
  · exact hx
section FWZ
variable {p : Program} {l : Launch} {e : Env} {R : Room} {s : State} {m : MethodId} {args : Array Value} {below : List Frame} {meth : Method} {c : Code} {cells slots : Nat} {Q : State → Prop}
variable {cc bytes : ByteArray} {nL maxL : Nat} {Ts ws ws' : List Cond} {own : String} {D : va_G} {aC : Nat → ClassId} {A : Nat → Prop} {g : Nat → Nat} {I I2 J : Nat → Nat → Int32} {pc pc' : Nat} {lv : List (Nat × Value)} {st st0 As av : List Value} {y : MethodName} {rm : Room} {ret : Option FieldType} {index na : Nat} {Wd Wd' : Heap → Prop}
theorem fx_cell {b L k : Nat} {xs : Nat → Int32} (C : CallFix p m c cc nL s args Ts own) (hG : ∀ {L : List Cond}, (∀ w ∈ L, w ∈ fw_ws) → GoodIn Ts L) (hX : va_X b L xs s s.heap) (hbl : b < s.heap.size) (hbA : ¬ A b) (_hN : fw_N s) (hL : L ≤ 1539) (hk : k ≤ 10) (h1 : Cond.methodLink own index y_LW_cell ∈ fw_ws) (h2 : Cond.static y_LW_cell ∈ fw_ws) (h3 : Cond.initialized y_LW_cell.cls ∈ fw_ws) (h4 : Cond.code y_LW_cell b_LW_cell 2 (some .int) ∈ fw_ws) (hfr : 1 ≤ R.frames) (hcs : cells ≤ R.cells ∧ slots ≤ R.slots) (hlo : 21 ≤ R.locals) (hrm : (st.map fun v => v.category).sum ≤ 8 := by decide) (hdg : decode cc pc = .ok (.invokestatic index, 3)) (hp : pc + 3 = pc')
    (kk : fw_H p l e R s m args below meth c cells slots Q nL A Wd pc' lv (.int (lw_cell xs L k) :: st)) : fw_H p l e R s m args below meth c cells slots Q nL A Wd pc lv (.int (nI k) :: .ref b :: st) := by
  subst hp
  intro ls H locs hl hW hS T hT X
  have hw : ∀ w ∈ fw_ws, w.before args s = true := fun w hw => C.2.2.2.2 w (hG (fun w hw => hw) w hw).1
  have cw : CallB R s args own index y_LW_cell b_LW_cell 2 (some .int) w_LW_cell r_LW_cell 0 0 2 ∧ (Cond.static y_LW_cell).before args s = true := ⟨callB_of 2 C.2.2.2.2 (hG (lw_sub h4)) rfl rfl rfl (hw _ h3) (hw _ h1) ⟨by decide +kernel, by decide +kernel, by decide +kernel⟩ ⟨hfr, hlo⟩, hw _ h2⟩
  obtain ⟨v, st₀, t, T', L', g1, X', g2, g3, g4, ⟨g5, g6⟩, g7⟩ := va_runS (H := H) (As := [.ref b, .int (nI k)]) (rest := st) (g := F0 m pc ls (.int (nI k) :: .ref b :: st)) C (ct_LW_cell l b L xs k hL hk) cw ⟨fun a U g' mk q => ⟨q.1, q.2.1.moved (Vm.Alike.refl U.vm), q.2.2⟩, fun U hU hWm => ⟨rfl, by
    rw [hU]
    exact (hX.kept (hS.2.1 b hbl hbA)).moved hWm.alike, by rw [hU]; exact Nat.lt_of_lt_of_le hbl hS.1⟩⟩ rfl rfl hl.1 rfl (lv_room hrm) hdg ⟨by omega, by omega⟩ T hT X
  cases g5
  have hL0 : L' = [] := by
    cases L' with
    | nil => rfl
    | cons q r => exact (g2 q List.mem_cons_self).elim
  subst hL0
  rw [List.append_nil] at X'
  obtain ⟨t2, a1, b1⟩ := kk ls H locs hl hW hS T' (by rw [g3, g6, g1]) X'
  exact ⟨t2, g7 t2 a1, b1⟩
theorem fx_ctorL {Bb mc ms : Nat} {Lk L2 : List (Nat × Nat)} {P2 : Heap → Prop} (C : CallFix p m c cc nL s args Ts own) (hK : va_K D fw_cl (fw_tys aC) s) (hN : fw_N s) (hAs : A = fun x => s.heap.size ≤ x) (hg : ∀ k, g k = Bb + k) (hB : s.heap.size ≤ Bb) (h2 : fw_stays g Lk.length P2) (hM : fw_Mc l y ws rm D aC g Bb Lk I (.ref (g 0) :: As) (L2, I2) mc ms) (cw : CallB R s args own index y bytes maxL none ws rm mc ms na ∧ y.name = "<init>" ∧ (Cond.instanceMethod y).before args s = true) (hcs : cells + mc ≤ R.cells ∧ slots + ms ≤ R.slots) (hna : As.length = na) (hst : st0 = As.reverse ++ .ref (g 0) :: st) (hrm : (st.map fun v => v.category).sum ≤ 8) (hdg : decode cc pc = .ok (.invokespecial index, 3)) (hp : pc + 3 = pc')
    (kk : fw_H p l e R s m args below meth c (cells + mc) (slots + ms) Q nL A (fun H => fw_Wd D aC A g L2.length (fw_k L2) I2 H ∧ P2 H) pc' lv st) : fw_H p l e R s m args below meth c cells slots Q nL A (fun H => fw_Wd D aC A g Lk.length (fw_k Lk) I H ∧ (P2 H ∧ H.size = Bb + Lk.length)) pc lv st0 := by
  subst hp
  intro ls H locs hl ⟨⟨hP, hD⟩, hp2, hz⟩ hS
  have hA : ∀ x, s.heap.size ≤ x → A x := fun x h => by rw [hAs]; exact h
  have hF : ∀ q, fw_A g Lk.length (Bb + Lk.length) q → A q := by
    have h := fw_free hD hS hA
    rw [hz] at h
    exact h
  refine va_callv (va_runI (As := As) (rest := st) C hM cw ⟨fw_pre_blind, fun U hU hW => ⟨rfl, by rw [hU]; exact hz, ⟨by rw [hU]; exact hP, va_K.moved hW.alike hK, fw_N.warm hW hN⟩, hD.weaken (fun _ _ _ _ => trivial)⟩⟩ rfl hna hl.1 hst (lv_room hrm) hdg hcs) hS (fun q _ h => hF q h) hF (fun u t H1 locs1 ht hvm hw hB' hz1 hk1 hS1 => ?_)
  cases hw
  refine kk ls H1 locs1 hl ⟨⟨by rw [← ht]; exact hB'.1, fw_D_lin hg (fun k _ => hA _ (by rw [hg]; omega))⟩, h2 H H1 hp2 hz1 ?_⟩ hS1
  rw [hz]
  exact fun q h1 h2 => hk1 q (by rw [hz]; exact h1) h2
/-- a new object, the first of its memory -/
theorem fx_new1 {ci N : Nat} {T : u_T} {Cn : String} (C : CallFix p m c cc nL s args Ts own) (hK : va_K D fw_cl (fw_tys aC) s) (hAs : A = fun x => s.heap.size ≤ x) (h1 : cells + 1 ≤ R.cells) (h2 : slots + N ≤ R.slots) (hc : ci < 20) (hcl : fw_cl[ci]? = some (Cn, T, N)) (hin : ∀ w ∈ u_ws Cn T N, w ∈ (Cond.tt :: fw_ws)) (htt : ∀ w ∈ (Cond.tt :: fw_ws), w.before args s = true) (ty0 : Nat → FieldType) (hty : ∀ k, k < N → parseFieldDescriptor (T k).2.2.1 = some (ty0 k)) (hdf : ∀ (g : Nat → Nat) (j : Nat), j < N → defaultValue (ty0 j) = vp_V (fw_fs g ci (fw_d ci)) j)
    (hclk : (Cond.classLink own index Cn).before args s = true) (hinst : (Cond.instantiable Cn N).before args s = true) (hini : (Cond.initialized Cn).before args s = true) (hWd : ∀ H H1 : Heap, Wd H → H.size ≤ H1.size → (∀ q, q < H.size → H1[q]? = H[q]?) → Wd' H1) (hdg : decode cc pc = .ok (.new index, 3)) (hp : pc + 3 = pc')
    (kk : ∀ (Bb : Nat) (H0 : Heap), s.heap.size ≤ Bb → Wd H0 → H0.size = Bb → fw_H p l e R s m args below meth c (cells + 1) (slots + N) Q nL A (fun H => fw_Wd D aC A (fun k => Bb + k) 1 (fw_k [(ci, 0)]) (va_up (fun _ _ => 0) 0 (fw_d ci)) H ∧ (Wd' H ∧ H.size = Bb + 1)) pc' lv (.ref (Bb + 0) :: st)) : fw_H p l e R s m args below meth c cells slots Q nL A Wd pc lv st := by
  subst hp
  intro ls H locs hl hW hS
  have hKn := hK.1 ci _ hcl
  refine W.newcK C.1 C.2.1 C.2.2.2.1 hclk hinst hini rfl hdg h1 h2 hKn.2.1 rfl (fun H1 kC hkC e1 z1 o1 => ?_)
  refine kk H.size H hS.1 hW rfl ls H1 locs hl ⟨?_, hWd H H1 hW (by omega) o1, z1⟩ (fw_S1 rfl hS z1 o1)
  exact fw_alloc (L := []) (L2 := [(ci, 0)]) (kd := (ci, 0)) (a := 0) (b := H.size) (I := fun _ _ => 0) (g := fun k => H.size + k) (fun k => rfl) rfl rfl rfl rfl (by rw [hAs]; exact hS.1) ⟨fun k q h => by simp [fw_W] at h, fun i j x y h => by simp [fw_W] at h, fun k q h => by simp [fw_W] at h⟩ o1 (by
    rw [show fw_sh aC (fun k => H.size + k) (ci, 0) (fw_d ci) = .inr (ci, fw_fs (fun k => H.size + k) ci (fw_d ci)) from if_pos hc]
    exact ⟨_, hcl, (u_born ty0 htt hin hKn hkC e1 hty).to (hdf _)⟩)
/-- the cell that takes a long is made -/
theorem fx_newO (C : CallFix p m c cc nL s args Ts own) (hK : va_K D fw_cl (fw_tys aC) s) (harr : (Cond.arrayClass .long).before args s = true) (h1 : cells + 1 ≤ R.cells) (h2 : slots + 1 ≤ R.slots) (hWd : ∀ H H1 : Heap, Wd H → H.size ≤ H1.size → (∀ q, q < H.size → H1[q]? = H[q]?) → Wd' H1) (hdg : decode cc pc = .ok (.newarray .long, 2)) (hp : pc + 2 = pc')
    (kk : ∀ (q : Nat) (H0 : Heap), s.heap.size ≤ q → Wd H0 → H0.size = q → fw_H p l e R s m args below meth c (cells + 1) (slots + 1) Q nL A (fun H => Wd' H ∧ lw_o aC q 0 H) pc' lv (.ref q :: st)) : fw_H p l e R s m args below meth c cells slots Q nL A Wd pc lv (.int 1 :: st) := by
  subst hp
  intro ls H locs hl hW hS
  have hRA : s.vm.findClass ("[" ++ FieldType.long.toString) = some (aC 22) := (hK.2 2 _ rfl).2
  have hby : 1 * componentBytes (newarray.typeOf .long) ≤ 536870912 := by decide
  refine va_newaK (atype := .long) (n := 1) (N := 1) (h := H.size) (g := F0 m pc ls (.int 1 :: st)) C.1 C.2.1 harr rfl hdg rfl (by decide) rfl hby h1 h2 rfl (fun H1 cA e1 z1 o1 hAr hNm => ?_)
  have hcA : cA = aC 22 := Option.some.inj (hNm.symm.trans hRA)
  subst hcA
  have e2 : lw_o aC H.size 0 H1 := e1
  exact kk H.size H hS.1 hW rfl ls H1 locs hl ⟨hWd H H1 hW (by omega) o1, e2⟩ (fw_S1 rfl hS z1 o1)
end FWZ
/-- what the pure part owes -/
def lw_pure : Prop := ∀ x1 x2 x3 : Int32, ∃ (LX : List (Nat × Nat)) (IX : Nat → Nat → Int32) (LM : List (Nat × Nat)) (JM : Nat → Nat → Int32) (Rel : (Nat → Nat → Int32) → (Nat → Nat → Int32) → Prop),
  fnc_FL_init 1 [(5, 0)] (va_up (fun _ _ => 0) 0 (fw_d 5)) 0 x1 x2 x3 = some (LX, IX) ∧ fnc_MD_init 1 [(6, 0)] (va_up (fun _ _ => 0) 0 (fw_d 6)) 0 x1 x2 x3 = some (LM, JM) ∧ lw_ops (fw_k LX) (fw_k LM) Rel ∧ Rel IX JM ∧ (fw_k LX 0).1 = 5 ∧ (fw_k LM 0).1 = 6
set_option maxHeartbeats 4000000 in
set_option maxRecDepth 100000 in
theorem whole_start (hpure : lw_pure) {p : Program} {e : Env} {s : State} {m : MethodId} {below : List Frame} {meth : Method} {c : Code} (l : Launch) (hst : l.stackTraces = false) {b L : Nat} {xs : Nat → Int32} (hL : L ≤ 1539) (C0 : lw_At p s m meth c b L xs) : W p l e room_1 s m #[Value.ref b] below meth c s.heap [] 0 0 (lw_Z below #[Value.ref b] s) (entryFrame m ([Value.ref b] : List Value).toArray 7) := by
  obtain ⟨hx, hb, hr, hml, hown, hts, hX, hbl, hlocks, hgv⟩ := C0
  obtain ⟨D, aC, hK⟩ := lw_K hts
  have hN := lw_N hts
  obtain ⟨hT, hn1⟩ := lw_th hts hgv
  have hF : CallFix p m c code 7 s #[Value.ref b] lw_tbl R_LW := ⟨hx, hb, hml, hown, hts⟩
  have hTs : ∀ x ∈ fw_ws, x ∈ lw_tbl := fun x h => (List.mem_filter.mp h).1
  have hG : ∀ {L : List Cond}, (∀ w ∈ L, w ∈ fw_ws) → GoodIn lw_tbl L := fun h w hw => ⟨hTs w (h w hw), good_of_word (List.mem_filter.mp (h w hw)).2⟩
  have hw : ∀ w ∈ fw_ws, w.before #[Value.ref b] s = true := fun w h => hts w (hTs w h)
  have htt := lw_tt hts
  obtain ⟨A, hAs⟩ : ∃ A : Nat → Prop, A = fun x => s.heap.size ≤ x := ⟨_, rfl⟩
  have hbA : ¬ A b := by rw [hAs]; exact Nat.not_le.mpr hbl
  obtain ⟨LX, IX, LM, JM, Rel, hfX, hfM, hops, hR, hkX, hkM⟩ := hpure (lw_cell xs L 0) (lw_cell xs L 1) (lw_cell xs L 2)
  have hl := lv_entry [.ref b] (n := 7) (Nat.le_of_ble_eq_true rfl)
  rw [lg_entry_eq]
  have main : fw_H p l e room_1 s m #[Value.ref b] below meth c 0 0 (lw_Z below #[Value.ref b] s) 7 A (fun H => True) 0 [(0, .ref b)] [] := by
    refine fx_new1 (pc' := 3) (Wd' := fun _ => True) hF hK hAs (by decide) (by decide) (by decide) rfl iw_FL htt ty_FL tyok_FL df_FL (hw _ wp_1_16) (hw _ wm_1_17) (hw _ wq_1_1) (fun _ _ _ _ _ => trivial) d_LW_law_0 rfl (fun Bx H0 hBx _ _ => ?_)
    refine fx_dup (pc' := 4) hF d_LW_law_3 rfl rfl ?_
    refine fx_aload_n (pc' := 5) hF d_LW_law_4 rfl 0 rfl rfl ?_
    refine fx_iconst (pc' := 6) hF (v := nI 0) d_LW_law_5 rfl rfl ?_
    refine fx_cell (pc' := 9) (k := 0) hF hG hX hbl hbA hN hL (by decide) wp_2_216 wp_2_217 wl_1_0 wp_2_218 (by decide) ⟨by decide, by decide⟩ (by decide) (Nat.le_of_ble_eq_true rfl) d_LW_law_6 rfl ?_
    refine fx_aload_n (pc' := 10) hF d_LW_law_9 rfl 0 rfl rfl ?_
    refine fx_iconst (pc' := 11) hF (v := nI 1) d_LW_law_10 rfl rfl ?_
    refine fx_cell (pc' := 14) (k := 1) hF hG hX hbl hbA hN hL (by decide) wp_2_216 wp_2_217 wl_1_0 wp_2_218 (by decide) ⟨by decide, by decide⟩ (by decide) (Nat.le_of_ble_eq_true rfl) d_LW_law_11 rfl ?_
    refine fx_aload_n (pc' := 15) hF d_LW_law_14 rfl 0 rfl rfl ?_
    refine fx_iconst (pc' := 16) hF (v := nI 2) d_LW_law_15 rfl rfl ?_
    refine fx_cell (pc' := 19) (k := 2) hF hG hX hbl hbA hN hL (by decide) wp_2_216 wp_2_217 wl_1_0 wp_2_218 (by decide) ⟨by decide, by decide⟩ (by decide) (Nat.le_of_ble_eq_true rfl) d_LW_law_16 rfl ?_
    refine fx_ctorL (pc' := 22) (P2 := fun _ => True) (Lk := [(5, 0)]) (L2 := LX) (I2 := IX) (Bb := Bx) (g := fun k => Bx + k) (As := [.int (lw_cell xs L 0), .int (lw_cell xs L 1), .int (lw_cell xs L 2)]) (st := [.ref (Bx + 0)]) hF hK hN hAs (fun k => rfl) hBx (fun _ _ h _ _ => h) (ct_FL_init l D aC (fun k => Bx + k) Bx 1 [(5, 0)] (va_up (fun _ _ => 0) 0 (fw_d 5)) 0 (lw_cell xs L 0) (lw_cell xs L 1) (lw_cell xs L 2) (LX, IX) (fun k => rfl) rfl rfl hfX) (cwI 3 hF.2.2.2.2 (hG (lw_sub wp_1_20)) rfl rfl rfl (hw _ wq_1_1) (hw _ wp_1_18) (hw _ wp_1_19) rfl ⟨by decide +kernel, by decide +kernel, by decide +kernel⟩ ⟨Nat.le_of_ble_eq_true rfl, Nat.le_of_ble_eq_true rfl⟩) ⟨by decide, by decide⟩ rfl rfl (Nat.le_of_ble_eq_true rfl) d_LW_law_19 rfl ?_
    refine fx_astore_n (pc' := 23) hF (lv' := [(1, .ref (Bx + 0)), (0, .ref b)]) d_LW_law_22 rfl (by decide) rfl rfl ?_
    refine fx_new1 (pc' := 26) (Wd' := fun H => fw_Wd D aC A (fun k => Bx + k) LX.length (fw_k LX) IX H) hF hK hAs (by decide) (by decide) (by decide) rfl iw_MD htt ty_MD tyok_MD df_MD (hw _ wp_3_110) (hw _ wm_3_111) (hw _ wq_1_8) (fun H H1 h _ ho => ⟨h.1.1.kept (fun k x hx => ho x.1 (h.1.1 k x hx).lt), h.1.2⟩) d_LW_law_23 rfl (fun Bm H0 hBm hH0 hz0 => ?_)
    have hlX : ∀ k, k < LX.length → Bx + k < Bm := fun k hk => by
      rw [← hz0]
      exact (hH0.1.1 k _ (fw_get hk)).lt
    refine fx_dup (pc' := 27) hF d_LW_law_26 rfl rfl ?_
    refine fx_aload_n (pc' := 28) hF d_LW_law_27 rfl 1 rfl rfl ?_
    refine fx_iconst (pc' := 29) hF (v := nI 0) d_LW_law_28 rfl rfl ?_
    refine fx_cell (pc' := 32) (k := 0) hF hG hX hbl hbA hN hL (by decide) wp_2_216 wp_2_217 wl_1_0 wp_2_218 (by decide) ⟨by decide, by decide⟩ (by decide) (Nat.le_of_ble_eq_true rfl) d_LW_law_29 rfl ?_
    refine fx_aload_n (pc' := 33) hF d_LW_law_32 rfl 1 rfl rfl ?_
    refine fx_iconst (pc' := 34) hF (v := nI 1) d_LW_law_33 rfl rfl ?_
    refine fx_cell (pc' := 37) (k := 1) hF hG hX hbl hbA hN hL (by decide) wp_2_216 wp_2_217 wl_1_0 wp_2_218 (by decide) ⟨by decide, by decide⟩ (by decide) (Nat.le_of_ble_eq_true rfl) d_LW_law_34 rfl ?_
    refine fx_aload_n (pc' := 38) hF d_LW_law_37 rfl 1 rfl rfl ?_
    refine fx_iconst (pc' := 39) hF (v := nI 2) d_LW_law_38 rfl rfl ?_
    refine fx_cell (pc' := 42) (k := 2) hF hG hX hbl hbA hN hL (by decide) wp_2_216 wp_2_217 wl_1_0 wp_2_218 (by decide) ⟨by decide, by decide⟩ (by decide) (Nat.le_of_ble_eq_true rfl) d_LW_law_39 rfl ?_
    have hXm : fw_stays (fun k => Bm + k) [(6, 0)].length (fun H => fw_Wd D aC A (fun k => Bx + k) LX.length (fw_k LX) IX H) := fw_Wd_stays (fun i _ j hj h => by
      have h1 := hlX j hj
      have h2 : Bm + i = Bx + j := h
      omega)
    refine fx_ctorL (pc' := 45) (P2 := fun H => fw_Wd D aC A (fun k => Bx + k) LX.length (fw_k LX) IX H) (Lk := [(6, 0)]) (L2 := LM) (I2 := JM) (Bb := Bm) (g := fun k => Bm + k) (As := [.int (lw_cell xs L 0), .int (lw_cell xs L 1), .int (lw_cell xs L 2)]) (st := [.ref (Bm + 0)]) hF hK hN hAs (fun k => rfl) hBm hXm (ct_MD_init l D aC (fun k => Bm + k) Bm 1 [(6, 0)] (va_up (fun _ _ => 0) 0 (fw_d 6)) 0 (lw_cell xs L 0) (lw_cell xs L 1) (lw_cell xs L 2) (LM, JM) (fun k => rfl) rfl rfl hfM) (cwI 3 hF.2.2.2.2 (hG (lw_sub wp_3_114)) rfl rfl rfl (hw _ wq_1_8) (hw _ wp_3_112) (hw _ wp_3_113) rfl ⟨by decide +kernel, by decide +kernel, by decide +kernel⟩ ⟨Nat.le_of_ble_eq_true rfl, Nat.le_of_ble_eq_true rfl⟩) ⟨by decide, by decide⟩ rfl rfl (Nat.le_of_ble_eq_true rfl) d_LW_law_42 rfl ?_
    refine fx_astore_n (pc' := 46) hF (lv' := [(2, .ref (Bm + 0)), (1, .ref (Bx + 0)), (0, .ref b)]) d_LW_law_45 rfl (by decide) rfl rfl ?_
    refine fx_iconst (pc' := 47) hF (v := (1 : Int32)) d_LW_law_46 rfl rfl ?_
    refine fx_newO (pc' := 49) (Wd' := fun H => fw_Wd D aC A (fun k => Bm + k) LM.length (fw_k LM) JM H ∧ fw_Wd D aC A (fun k => Bx + k) LX.length (fw_k LX) IX H) hF hK (hw _ wp_4_103) (by decide) (by decide) (fun H H1 h _ ho => ⟨⟨h.1.1.kept (fun k x hx => ho x.1 (h.1.1 k x hx).lt), h.1.2⟩, ⟨h.2.1.kept (fun k x hx => ho x.1 (h.2.1 k x hx).lt), h.2.2⟩⟩) d_LW_law_47 rfl (fun q H0' hq hH0' hz0' => ?_)
    have hqX : ∀ k, k < LX.length → Bx + k ≠ q := fun k hk => by
      rw [← hz0']
      exact Nat.ne_of_lt (hH0'.2.1 k _ (fw_get hk)).lt
    have hqM : ∀ k, k < LM.length → Bm + k ≠ q := fun k hk => by
      rw [← hz0']
      exact Nat.ne_of_lt (hH0'.1.1 k _ (fw_get hk)).lt
    refine fx_astore_n (pc' := 50) hF (lv' := [(3, .ref q), (2, .ref (Bm + 0)), (1, .ref (Bx + 0)), (0, .ref b)]) d_LW_law_49 rfl (by decide) rfl rfl ?_
    refine fx_iconst (pc' := 51) hF (v := nI 3) d_LW_law_50 rfl rfl ?_
    refine fx_istore (pc' := 53) hF (lv' := [(4, .int (nI 3)), (3, .ref q), (2, .ref (Bm + 0)), (1, .ref (Bx + 0)), (0, .ref b)]) d_LW_law_51 (by decide) rfl rfl ?_
    refine fx_lv [4, 3, 2, 1, 0] rfl ?_
    refine fx_wd (Wd' := fun H => fw_Wd D aC A (fun k => Bx + k) LX.length (fw_k LX) IX H ∧ (fw_Wd D aC A (fun k => Bm + k) LM.length (fw_k LM) JM H ∧ lw_o aC q 0 H)) (fun H h => ⟨h.1.2, h.1.1, h.2⟩) ?_
    exact lw_loop (gX := fun k => Bx + k) (gM := fun k => Bm + k) hst hL hops ⟨hF, hK, fw_k_lt⟩ fw_k_lt fw_k_lt hTs hG hN hT hn1 hr hlocks hAs hX hbl hkX hkM (fun i hi j _ h => by
      have h1 := hlX i hi
      have h2 : Bx + i = Bm + j := h
      omega) hqX hqM (by rw [hAs]; exact hq) 1539 3 IX JM 0 _ _ hR (by omega) (by decide) (by decide) (by decide)
  exact main _ s.heap [] hl trivial va_S.rf
