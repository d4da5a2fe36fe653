/-! rows for the law's body -/
theorem fw_Wd_stays {D : va_G} {aC : Nat → ClassId} {A : Nat → Prop} {g g2 : Nat → Nat} {n n2 : Nat} {K2 : Nat → Nat × Nat} {I2 : Nat → Nat → Int32} (hd : ∀ i, i < n → ∀ j, j < n2 → g i ≠ g2 j) : fw_stays g n (fw_Wd D aC A g2 n2 K2 I2) := by
  intro H H1 h _ hk
  refine ⟨h.1.kept (fun k x hx => ?_), h.2⟩
  have hlt := (h.1 k x hx).lt
  obtain ⟨hk2, rfl⟩ := fw_at hx
  refine hk _ hlt ?_
  intro h3
  rcases h3 with ⟨i, hi, h4⟩ | h3
  · exact hd i hi k hk2 h4.symm
  · exact absurd hlt (Nat.not_lt.mpr h3)
theorem fw_stays_and {g : Nat → Nat} {n : Nat} {P Q : Heap → Prop} (h1 : fw_stays g n P) (h2 : fw_stays g n Q) : fw_stays g n (fun H => P H ∧ Q H) := fun H H1 h hz hk => ⟨h1 H H1 h.1 hz hk, h2 H H1 h.2 hz hk⟩
section FWY
variable {p : Program} {l : Launch} {e : Env} {R : Room} {s : State} {m : MethodId} {args : Array Value} {below : List Frame} {meth : Method} {c : Code} {cells slots : Nat} {Q : State → Prop}
variable {cc bytes : ByteArray} {nL maxL : Nat} {Ts ws ws' : List Cond} {own : String} {D : va_G} {aC : Nat → ClassId} {A : Nat → Prop} {g g2 : Nat → Nat} {n n2 : Nat} {K K2 : Nat → Nat × Nat} {I I2 J : Nat → Nat → Int32} {pc pc' : Nat} {lv : List (Nat × Value)} {st st0 As av : List Value} {y : MethodName} {rm : Room} {ret : Option FieldType} {index na : Nat} {Wd Wd' : Heap → Prop}
theorem fx_wd (h : ∀ H, Wd H → Wd' H) (kk : fw_H p l e R s m args below meth c cells slots Q nL A Wd' pc lv st) : fw_H p l e R s m args below meth c cells slots Q nL A Wd pc lv st := fun ls H locs hl hW hS => kk ls H locs hl (h H hW) hS
theorem fx_sld (C : CallFix p m c cc nL s args Ts own) {b L : Nat} {xs : Nat → Int32} (hX : va_X b L xs s s.heap) (hbl : b < s.heap.size) (hbA : ¬ A b) {i : Int32} (hin : vp_in i L) (hdg : decode cc pc = .ok (.iaload, 1)) (hp : pc + 1 = pc')
    (kk : fw_H p l e R s m args below meth c cells slots Q nL A Wd pc' lv (.int (xs i.toNatClampNeg) :: st)) : fw_H p l e R s m args below meth c cells slots Q nL A Wd pc lv (.int i :: .ref b :: st) := by
  subst hp
  exact fun ls H locs hl hW hS => va_sld C.1 C.2.1 hX hbl hbA hS hin hdg (kk ls H locs hl hW hS)
theorem fx_slen (C : CallFix p m c cc nL s args Ts own) {b L : Nat} {xs : Nat → Int32} (hX : va_X b L xs s s.heap) (hbl : b < s.heap.size) (hbA : ¬ A b) (hdg : decode cc pc = .ok (.arraylength, 1)) (hp : pc + 1 = pc')
    (kk : fw_H p l e R s m args below meth c cells slots Q nL A Wd pc' lv (.int (Int32.ofNat L) :: st)) : fw_H p l e R s m args below meth c cells slots Q nL A Wd pc lv (.ref b :: st) := by
  subst hp
  exact fun ls H locs hl hW hS => va_slen C.1 C.2.1 hX hbl hbA hS hdg (kk ls H locs hl hW hS)
theorem fx_lcmp (C : CallFix p m c cc nL s args Ts own) {x : Int64} (hdg : decode cc pc = .ok (.lcmp, 1)) (hp : pc + 1 = pc')
    (kk : fw_H p l e R s m args below meth c cells slots Q nL A Wd pc' lv (.int 0 :: st)) : fw_H p l e R s m args below meth c cells slots Q nL A Wd pc lv (.long x :: .long x :: st) := by
  subst hp
  intro ls H locs hl hW hS
  have k1 := kk ls H locs hl hW hS
  refine W.lcmp C.1 C.2.1 hdg ?_
  rw [show lg_cmp x x = 0 by unfold lg_cmp; simp]
  exact k1
/-- the long that the cell holds -/
theorem fx_laldO (C : fw_C p m c cc nL s args Ts own D aC n K) {q : Nat} {z : Int64} (hWd : ∀ H, Wd H → lw_o aC q z H) (hdg : decode cc pc = .ok (.laload, 1)) (hp : pc + 1 = pc')
    (kk : fw_H p l e R s m args below meth c cells slots Q nL A Wd pc' lv (.long z :: st)) : fw_H p l e R s m args below meth c cells slots Q nL A Wd pc lv (.int 0 :: .ref q :: st) := by
  subst hp
  intro ls H locs hl hW hS
  have ho : H[q]? = some (arrV (aC 22) 1 (fun _ => .long z)) := hWd H hW
  exact W.lald (v := .long z) C.1.1 C.1.2.1 ho ((C.2.1.2 2 _ rfl).1 1 (fun _ => .long z)) (fun h => by cases h) (by rw [arrV_size]; decide) (by rw [arrV_read _ _ (by decide)]) rfl rfl hdg (kk ls H locs hl hW hS)
theorem fw_runSW {hh : List (Nat × Nat × Nat × Nat)} {H : Heap} {locs : List Loc} {mc ms : Nat} {free : Addr → Prop} {Pc : Array Value → State → Prop} {Qc : Array Value → State → Outcome → State → Prop} {f : JFrame} (S : CallFix p m c cc nL s args Ts own) (hM : Met l y ws rm Pc Qc mc ms free) (hrc : rm.cells = mc) (hrs : rm.slots = ms) (hfr : rm.frames + 1 ≤ R.frames) (hlo : 8 + (maxL + 11) + rm.locals ≤ R.locals) (hG : GoodIn Ts ws) (hcw : Cond.codeWith y bytes maxL ret hh ∈ ws) (hini : (Cond.initialized y.cls).before args s = true) (hstat : (Cond.static y).before args s = true) (hlk : (Cond.methodLink own index y).before args s = true) (hy : y.cls ≠ "java/lang/invoke/MethodHandle" ∧ y.cls ≠ "java/lang/invoke/VarHandle") (hlen : (parseMethodDescriptor y.desc).map (fun d => d.parameters.length) = some na) (hp : PreS s H Pc As)
    (hg : f.method = m) (hn : As.length = na) (hsize : f.locals.size = nL) (hstack : f.stack = As.reverse ++ st) (hW : 2 * f.monitorRoom + (st.map fun v => v.category).sum ≤ 8) (hdg : decode cc f.pc = .ok (.invokestatic index, 3)) (hf : cells + mc ≤ R.cells ∧ slots + ms ≤ R.slots) : va_Run p l e R s m args below meth c H locs cells slots mc ms f st (Qc As.toArray) free := by
  have hws : ∀ w ∈ ws, ∀ (a' : Array Value) (U : State), s.WarmedH U.vm → w.before a' U = true := pay_in S.2.2.2.2 hG
  have hK : Back l R p e below s args y 3 8 (PreOf R mc ms Pc) (PostOf Qc mc ms free) := va_backW (hh := hh) (bytes := bytes) (maxL := maxL) (ret := ret) hM hp.1 hrc hrs hfr hlo hws hcw (fun a' U hW => word_at hW (Or.inl (by first | rfl | simp [Cond.onTables, Cond.keeps, Cond.steady])) hini)
  intro T hT X
  obtain ⟨mk, methM, cM, hnamed, hmethM, -, -, -, -, -, -, hsigM⟩ := Cond.codeWith_spec (S.2.2.2.2 _ (hG _ hcw).1)
  have hstatic : methM.isStatic = true := Cond.static_spec hnamed hmethM hstat
  obtain ⟨kP, hkP, -⟩ := className_of_methodNamed hnamed
  have hinitP : kP.init = .initialized := Cond.initialized_spec (findClass_of_methodNamed hnamed) hkP hini
  have hl2 : As.length = methM.sig.parameters.length := by
    rw [hsigM] at hlen
    exact hn.trans (Option.some.inj hlen).symm
  obtain ⟨vm₁, X₁, hstep₁⟩ := X.invokestatic S.1 S.2.2.2.1 hlk hnamed hmethM hstatic hkP hinitP hy (g := f) hg (argsL := As) (rest := st) hl2 hstack (by rw [S.2.1]; exact hdg)
  obtain ⟨v, ⟨U', l2, c2, s2⟩, X', hpost, hsteps⟩ := hK m meth c ⟨T.setVm vm₁, locs, cells, slots⟩ { f with stack := st } (.invokestatic index) mk As.toArray X₁ hg (hsize.trans S.2.2.1.symm) (by rw [S.2.1]; exact hdg) hW (X₁.named hnamed) ⟨hf.1, hf.2, hp.2 (T.setVm vm₁) hT X₁.warmed⟩
  obtain ⟨g', mk', t, L, e1, e2, hq, h1, hL, h2, h3⟩ := hpost
  dsimp only [Pt.U, Pt.locs, Pt.cells, Pt.slots] at X' e1 e2 h1 h2 h3
  subst h1; subst h2; subst h3
  exact ⟨v, (T.setVm vm₁).calling g' mk' As.toArray, t, U', L, hT, X', hL, e1, e2, hq, fun target h => hstep₁ _ fun acts => by rw [doInvoke_state]; exact hsteps.trans h⟩
/-- a call of the law's own add or read -/
theorem fx_callSx {hh : List (Nat × Nat × Nat × Nat)} {P2 : Heap → Prop} {q : Nat} {z z2 : Int64} {r : Int32} (C : fw_C p m c cc nL s args Ts own D aC n K) (hN : fw_N s) (hT : th_T s) (hn1 : tn_T s) (hAs : A = fun x => s.heap.size ≤ x) (h2 : ∀ H H1 : Heap, P2 H → H.size ≤ H1.size → (∀ x, x < H.size → ¬ fw_Ax g n H.size q x → H1[x]? = H[x]?) → P2 H1) (hAq : A q)
    (hM : fw_Mx l y ws rm D aC g n K I q z As (r, I2, z2)) (hrc : rm.cells = 1) (hrs : rm.slots = 6) (hfr : rm.frames + 1 ≤ R.frames) (hlo : 8 + (maxL + 11) + rm.locals ≤ R.locals) (hG : GoodIn Ts ws) (hcw : Cond.codeWith y bytes maxL ret hh ∈ ws) (hini : (Cond.initialized y.cls).before args s = true) (hstat : (Cond.static y).before args s = true) (hlk : (Cond.methodLink own index y).before args s = true) (hy : y.cls ≠ "java/lang/invoke/MethodHandle" ∧ y.cls ≠ "java/lang/invoke/VarHandle") (hlen : (parseMethodDescriptor y.desc).map (fun d => d.parameters.length) = some na)
    (hcs : cells + 1 ≤ R.cells ∧ slots + 6 ≤ R.slots) (hna : As.length = na) (hst : st0 = As.reverse ++ st) (hrm : (st.map fun v => v.category).sum ≤ 8) (hdg : decode cc pc = .ok (.invokestatic index, 3)) (hp : pc + 3 = pc')
    (kk : fw_H p l e R s m args below meth c (cells + 1) (slots + 6) Q nL A (fun H => fw_Wd D aC A g n K I2 H ∧ (P2 H ∧ lw_o aC q z2 H)) pc' lv (.int r :: st)) : fw_H p l e R s m args below meth c cells slots Q nL A (fun H => fw_Wd D aC A g n K I H ∧ (P2 H ∧ lw_o aC q z H)) pc lv st0 := by
  subst hp
  intro ls H locs hl ⟨⟨hP, hD⟩, hp2, ho⟩ hS
  have hA : ∀ x, s.heap.size ≤ x → A x := fun x h => by rw [hAs]; exact h
  have hF : ∀ x, fw_Ax g n H.size q x → A x := fun x h => by
    rcases h with h | rfl
    · exact fw_free hD hS hA x h
    · exact hAq
  refine va_calli (fw_runSW (hh := hh) (As := As) (st := st) C.1 (hM H.size) hrc hrs hfr hlo hG hcw hini hstat hlk hy hlen ⟨fw_preX_blind, fun U hU hW => ⟨rfl, ⟨by rw [hU], ⟨by rw [hU]; exact hP, va_K.moved hW.alike C.2.1, fw_N.warm hW hN⟩, hD.weaken (fun _ _ _ _ => trivial)⟩, th_T.move hW (fun x cell h1 _ => ?_) hT, tn_T.move hW.alike hn1, by rw [hU]; exact ho⟩⟩ rfl hna hl.1 hst (lv_room hrm) hdg hcs) hS (fun x _ h => hF x h) hF (fun r' u t H1 locs1 ht hvm hw hB hz1 hk1 hS1 => ?_)
  · rw [hU]
    have hlt := (Array.getElem?_eq_some_iff.mp h1).1
    exact (hS.2.1 x hlt (by rw [hAs]; exact Nat.not_le.mpr hlt)).trans h1
  · obtain ⟨u1, u2⟩ := u
    cases hw
    exact kk ls H1 locs1 hl ⟨⟨by rw [← ht]; exact hB.1.1, fw_D_any hD⟩, h2 H H1 hp2 hz1 hk1, by rw [← ht]; exact hB.2⟩ hS1
end FWY
