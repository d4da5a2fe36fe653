set_option maxHeartbeats 4000000 in
set_option maxRecDepth 100000 in
theorem cp_FL_setMember (l : Launch) (D : va_G) (aC : Nat → ClassId) (g : Nat → Nat) (n : Nat) (K : Nat → Nat × Nat) (I : Nat → Nat → Int32) (k0 : Nat) (x1 : Int32) (x2 : Int32) (Rr : Int32 × (Nat → Nat → Int32)) (hn : ∀ k, (K k).1 < 99 → k < n) (hk0 : (K k0).1 = 5) (h : fn_FL_setMember K I k0 x1 x2 = some Rr) : fw_Mi0 l y_FL_setMember w_FL_setMember r_FL_setMember D aC g n K I [.ref (g k0), .int x1, .int x2] Rr := by
  refine fw_ofGi0 (cc := b_FL_setMember) (maxL := 3) (ws' := fw_ws) (by decide +kernel) hn (Nat.le_of_ble_eq_true rfl) rfl ?_
  intro p e s m args below meth c Q hC hN he
  have hF := hC.1
  have hw : ∀ w ∈ fw_ws, w.before args s = true := fun w hw => hF.2.2.2.2 w (List.mem_cons_of_mem _ hw)
  unfold fn_FL_setMember at h
  change fw_G0 p l e r_FL_setMember s m args below meth c Q 3 D aC g n K I 0 [(0, .ref (g k0)), (1, .int x1), (2, .int x2)] []
  refine fx_iload_n (pc' := 1) hF d_FL_setMember_0 rfl 1 rfl rfl ?_
  refine fx_iload_n (pc' := 2) hF d_FL_setMember_1 rfl 2 rfl rfl ?_
  refine fx_iadd (pc' := 3) hF d_FL_setMember_2 rfl ?_
  refine fx_aload_n (pc' := 4) hF d_FL_setMember_3 rfl 0 rfl rfl ?_
  refine fx_geti (pc' := 7) hC hk0 (by decide) rfl iw_FL 0 (by decide) (by decide) rfl (hw _ wq_1_193) rfl d_FL_setMember_4 rfl ?_
  obtain ⟨q1, h⟩ := fw_gd_some h
  refine fx_irem (pc' := 8) hF d_FL_setMember_7 (of_decide_eq_true q1) rfl ?_
  exact he I _ _ rfl _ d_FL_setMember_8 h
set_option maxHeartbeats 4000000 in
set_option maxRecDepth 100000 in
theorem cp_FL_firstUpWith (l : Launch) (D : va_G) (aC : Nat → ClassId) (g : Nat → Nat) (n : Nat) (K : Nat → Nat × Nat) (I : Nat → Nat → Int32) (k0 : Nat) (x1 : Int32) (Rr : Int32 × (Nat → Nat → Int32)) (hn : ∀ k, (K k).1 < 99 → k < n) (hk0 : (K k0).1 = 5) (h : fn_FL_firstUpWith K I k0 x1 = some Rr) : fw_Mi0 l y_FL_firstUpWith w_FL_firstUpWith r_FL_firstUpWith D aC g n K I [.ref (g k0), .int x1] Rr := by
  refine fw_ofGi0 (cc := b_FL_firstUpWith) (maxL := 4) (ws' := fw_ws) (by decide +kernel) hn (Nat.le_of_ble_eq_true rfl) rfl ?_
  intro p e s m args below meth c Q hC hN he
  have hF := hC.1
  have hw : ∀ w ∈ fw_ws, w.before args s = true := fun w hw => hF.2.2.2.2 w (List.mem_cons_of_mem _ hw)
  unfold fn_FL_firstUpWith at h
  have B2 : ∀ (f : Nat) (I : Nat → Nat → Int32) (x1 : Int32) (x2 : Int32), fn_FL_firstUpWith_2 K f I k0 x1 x2 = some Rr → fw_G0 p l e r_FL_firstUpWith s m args below meth c Q 4 D aC g n K I 2 [(0, .ref (g k0)), (1, .int x1), (2, .int x2)] [] := by
    intro f
    induction f with
    | zero =>
      intro I x1 x2 h
      rw [fn_FL_firstUpWith_2] at h
      cases h
    | succ f ih =>
      intro I x1 x2 h
      rw [fn_FL_firstUpWith_2] at h
      refine fx_iload_n (pc' := 3) hF d_FL_firstUpWith_2 rfl 2 rfl rfl ?_
      refine fx_aload_n (pc' := 4) hF d_FL_firstUpWith_3 rfl 0 rfl rfl ?_
      refine fx_geti (pc' := 7) hC hk0 (by decide) rfl iw_FL 1 (by decide) (by decide) rfl (hw _ wq_1_194) rfl d_FL_firstUpWith_4 rfl ?_
      refine fx_icmp_ge hF (tgt := 51) (pc' := 10) d_FL_firstUpWith_7 rfl rfl (fun q1 => ?_) (fun q1 => ?_)
      · rw [if_pos q1] at h
        refine fx_iconst (pc' := 52) hF (v := (-1 : Int32)) d_FL_firstUpWith_51 rfl rfl ?_
        exact he I _ _ rfl _ d_FL_firstUpWith_52 h
      · rw [if_neg q1] at h
        refine fx_aload_n (pc' := 11) hF d_FL_firstUpWith_10 rfl 0 rfl rfl ?_
        refine fx_iload_n (pc' := 12) hF d_FL_firstUpWith_11 rfl 1 rfl rfl ?_
        refine fx_iload_n (pc' := 13) hF d_FL_firstUpWith_12 rfl 2 rfl rfl ?_
        obtain ⟨r4, I2, c3, h⟩ := fw_bd_some h
        refine fx_callVi0 (pc' := 16) (As := [.int x1, .int x2]) (st := []) hC hN hk0 (by decide) rfl (cp_FL_setMember l D aC g n K I k0 x1 x2 (r4, I2) hn hk0 c3) (cwV 2 hF.2.2.2.2 (fw_gV wq_2_10 wq_2_12 wsel_FL_setMember wq_1_1 wq_2_13) rfl rfl rfl ⟨rfl, by decide +kernel, by decide +kernel, by decide +kernel⟩ ⟨Nat.le_of_ble_eq_true rfl, Nat.le_of_ble_eq_true rfl⟩) rfl rfl (Nat.le_of_ble_eq_true rfl) d_FL_firstUpWith_13 rfl ?_
        refine fx_istore_n (pc' := 17) hF (lv' := [(3, .int r4), (0, .ref (g k0)), (1, .int x1), (2, .int x2)]) d_FL_firstUpWith_16 rfl (by decide) rfl rfl ?_
        refine fx_aload_n (pc' := 18) hF d_FL_firstUpWith_17 rfl 1 rfl rfl ?_
        obtain ⟨a5, na5, ea5, ka5, h⟩ := fw_ld_some h
        refine fx_getr (pc' := 21) hC hk0 (by decide) rfl iw_FL 3 (by decide) (by decide) rfl na5 ea5 (hw _ wq_1_196) rfl d_FL_firstUpWith_18 rfl ?_
        refine fx_iload_n (pc' := 22) hF d_FL_firstUpWith_21 rfl 0 rfl rfl ?_
        obtain ⟨q6, h⟩ := fw_gd_some h
        obtain ⟨a7, na7, ea7, ka7, h⟩ := fw_ld_some h
        refine fx_aald23 (pc' := 23) hC ka5 q6 na7 ea7 d_FL_firstUpWith_22 rfl ?_
        refine fx_getiN (pc' := 26) hC ka7 (by decide) rfl iw_ST 2 (by decide) (by decide) rfl (va_Nw.use rfl (hN.1 _ wn_1_45)) rfl d_FL_firstUpWith_23 rfl ?_
        refine fx_if_eq hF (tgt := 45) (pc' := 29) d_FL_firstUpWith_26 rfl rfl (fun q8 => ?_) (fun q8 => ?_)
        · rw [if_pos q8] at h
          refine fx_iinc (pc' := 48) hF (v := x2 + 1) (lv' := [(2, .int (x2 + 1)), (3, .int r4), (0, .ref (g k0)), (1, .int x1)]) d_FL_firstUpWith_45 3 rfl rfl (by decide) rfl rfl ?_
          refine fx_goto hF (tgt := 2) d_FL_firstUpWith_48 rfl ?_
          refine fx_lv [2, 3, 0] rfl ?_
          exact ih I2 x1 (x2 + 1) h
        · rw [if_neg q8] at h
          refine fx_aload_n (pc' := 30) hF d_FL_firstUpWith_29 rfl 1 rfl rfl ?_
          obtain ⟨a9, na9, ea9, ka9, h⟩ := fw_ld_some h
          refine fx_getr (pc' := 33) hC hk0 (by decide) rfl iw_FL 3 (by decide) (by decide) rfl na9 ea9 (hw _ wq_1_196) rfl d_FL_firstUpWith_30 rfl ?_
          refine fx_iload_n (pc' := 34) hF d_FL_firstUpWith_33 rfl 0 rfl rfl ?_
          obtain ⟨q10, h⟩ := fw_gd_some h
          obtain ⟨a11, na11, ea11, ka11, h⟩ := fw_ld_some h
          refine fx_aald23 (pc' := 35) hC ka9 q10 na11 ea11 d_FL_firstUpWith_34 rfl ?_
          obtain ⟨a12, na12, ea12, ka12, h⟩ := fw_ld_some h
          refine fx_getrN (pc' := 38) hC ka11 (by decide) rfl iw_ST 0 (by decide) (by decide) rfl na12 ea12 (va_Nw.use rfl (hN.1 _ wn_1_41)) rfl d_FL_firstUpWith_35 rfl ?_
          refine fx_iload_n (pc' := 39) hF d_FL_firstUpWith_38 rfl 2 rfl rfl ?_
          obtain ⟨q13, h⟩ := fw_gd_some h
          refine fx_zald (pc' := 40) hC ka12 q13 d_FL_firstUpWith_39 rfl ?_
          refine fx_if_eq hF (tgt := 45) (pc' := 43) d_FL_firstUpWith_40 rfl rfl (fun q14 => ?_) (fun q14 => ?_)
          · rw [if_pos q14] at h
            refine fx_iinc (pc' := 48) hF (v := x2 + 1) (lv' := [(2, .int (x2 + 1)), (3, .int r4), (0, .ref (g k0)), (1, .int x1)]) d_FL_firstUpWith_45 3 rfl rfl (by decide) rfl rfl ?_
            refine fx_goto hF (tgt := 2) d_FL_firstUpWith_48 rfl ?_
            refine fx_lv [2, 3, 0] rfl ?_
            exact ih I2 x1 (x2 + 1) h
          · rw [if_neg q14] at h
            refine fx_iload_n (pc' := 44) hF d_FL_firstUpWith_43 rfl 0 rfl rfl ?_
            exact he I2 _ _ rfl _ d_FL_firstUpWith_44 h
  change fw_G0 p l e r_FL_firstUpWith s m args below meth c Q 4 D aC g n K I 0 [(0, .ref (g k0)), (1, .int x1)] []
  refine fx_iconst (pc' := 1) hF (v := (0 : Int32)) d_FL_firstUpWith_0 rfl rfl ?_
  refine fx_istore_n (pc' := 2) hF (lv' := [(2, .int (0 : Int32)), (0, .ref (g k0)), (1, .int x1)]) d_FL_firstUpWith_1 rfl (by decide) rfl rfl ?_
  refine fx_lv [1, 2, 0] rfl ?_
  exact B2 200 I x1 (0 : Int32) h
set_option maxHeartbeats 4000000 in
set_option maxRecDepth 100000 in
theorem cp_FL_isEntry (l : Launch) (D : va_G) (aC : Nat → ClassId) (g : Nat → Nat) (n : Nat) (K : Nat → Nat × Nat) (I : Nat → Nat → Int32) (x0 : Int32) (Rr : Int32 × (Nat → Nat → Int32)) (hn : ∀ k, (K k).1 < 99 → k < n) (h : fn_FL_isEntry K I x0 = some Rr) : fw_Mi0 l y_FL_isEntry w_FL_isEntry r_FL_isEntry D aC g n K I [.int x0] Rr := by
  refine fw_ofGi0 (cc := b_FL_isEntry) (maxL := 1) (ws' := fw_ws) (by decide +kernel) hn (Nat.le_of_ble_eq_true rfl) rfl ?_
  intro p e s m args below meth c Q hC hN he
  have hF := hC.1
  have hw : ∀ w ∈ fw_ws, w.before args s = true := fun w hw => hF.2.2.2.2 w (List.mem_cons_of_mem _ hw)
  unfold fn_FL_isEntry at h
  change fw_G0 p l e r_FL_isEntry s m args below meth c Q 1 D aC g n K I 0 [(0, .int x0)] []
  refine fx_iload_n (pc' := 1) hF d_FL_isEntry_0 rfl 0 rfl rfl ?_
  refine fx_if_lt hF (tgt := 14) (pc' := 4) d_FL_isEntry_1 rfl rfl (fun q1 => ?_) (fun q1 => ?_)
  · rw [if_pos q1] at h
    refine fx_iconst (pc' := 15) hF (v := (0 : Int32)) d_FL_isEntry_14 rfl rfl ?_
    exact he I _ _ rfl _ d_FL_isEntry_15 h
  · rw [if_neg q1] at h
    refine fx_iload_n (pc' := 5) hF d_FL_isEntry_4 rfl 0 rfl rfl ?_
    refine fx_bipush (pc' := 7) hF (v := (20 : Int32)) d_FL_isEntry_5 rfl rfl ?_
    refine fx_icmp_ge hF (tgt := 14) (pc' := 10) d_FL_isEntry_7 rfl rfl (fun q2 => ?_) (fun q2 => ?_)
    · rw [if_pos q2] at h
      refine fx_iconst (pc' := 15) hF (v := (0 : Int32)) d_FL_isEntry_14 rfl rfl ?_
      exact he I _ _ rfl _ d_FL_isEntry_15 h
    · rw [if_neg q2] at h
      refine fx_iconst (pc' := 11) hF (v := (1 : Int32)) d_FL_isEntry_10 rfl rfl ?_
      refine fx_goto hF (tgt := 15) d_FL_isEntry_11 rfl ?_
      exact he I _ _ rfl _ d_FL_isEntry_15 h
set_option maxHeartbeats 4000000 in
set_option maxRecDepth 100000 in
theorem cp_WR_isFull (l : Launch) (D : va_G) (aC : Nat → ClassId) (g : Nat → Nat) (n : Nat) (K : Nat → Nat × Nat) (I : Nat → Nat → Int32) (k0 : Nat) (Rr : Int32 × (Nat → Nat → Int32)) (hn : ∀ k, (K k).1 < 99 → k < n) (hk0 : (K k0).1 = 4) (h : fn_WR_isFull K I k0 = some Rr) : fw_Mi0 l y_WR_isFull w_WR_isFull r_WR_isFull D aC g n K I [.ref (g k0)] Rr := by
  refine fw_ofGi0 (cc := b_WR_isFull) (maxL := 1) (ws' := fw_ws) (by decide +kernel) hn (Nat.le_of_ble_eq_true rfl) rfl ?_
  intro p e s m args below meth c Q hC hN he
  have hF := hC.1
  have hw : ∀ w ∈ fw_ws, w.before args s = true := fun w hw => hF.2.2.2.2 w (List.mem_cons_of_mem _ hw)
  unfold fn_WR_isFull at h
  change fw_G0 p l e r_WR_isFull s m args below meth c Q 1 D aC g n K I 0 [(0, .ref (g k0))] []
  refine fx_aload_n (pc' := 1) hF d_WR_isFull_0 rfl 0 rfl rfl ?_
  refine fx_geti (pc' := 4) hC hk0 (by decide) rfl iw_WR 3 (by decide) (by decide) rfl (hw _ wq_1_142) rfl d_WR_isFull_1 rfl ?_
  refine fx_bipush (pc' := 6) hF (v := (20 : Int32)) d_WR_isFull_4 rfl rfl ?_
  refine fx_icmp_ge hF (tgt := 24) (pc' := 9) d_WR_isFull_6 rfl rfl (fun q1 => ?_) (fun q1 => ?_)
  · rw [if_pos q1] at h
    refine fx_iconst (pc' := 25) hF (v := (1 : Int32)) d_WR_isFull_24 rfl rfl ?_
    refine fx_goto hF (tgt := 29) d_WR_isFull_25 rfl ?_
    exact he I _ _ rfl _ d_WR_isFull_29 h
  · rw [if_neg q1] at h
    refine fx_aload_n (pc' := 10) hF d_WR_isFull_9 rfl 0 rfl rfl ?_
    refine fx_geti (pc' := 13) hC hk0 (by decide) rfl iw_WR 3 (by decide) (by decide) rfl (hw _ wq_1_142) rfl d_WR_isFull_10 rfl ?_
    refine fx_aload_n (pc' := 14) hF d_WR_isFull_13 rfl 0 rfl rfl ?_
    refine fx_geti (pc' := 17) hC hk0 (by decide) rfl iw_WR 4 (by decide) (by decide) rfl (hw _ wq_1_144) rfl d_WR_isFull_14 rfl ?_
    refine fx_iconst (pc' := 18) hF (v := (1 : Int32)) d_WR_isFull_17 rfl rfl ?_
    refine fx_iadd (pc' := 19) hF d_WR_isFull_18 rfl ?_
    refine fx_isub (pc' := 20) hF d_WR_isFull_19 rfl ?_
    refine fx_iconst (pc' := 21) hF (v := (4 : Int32)) d_WR_isFull_20 rfl rfl ?_
    refine fx_icmp_lt hF (tgt := 28) (pc' := 24) d_WR_isFull_21 rfl rfl (fun q2 => ?_) (fun q2 => ?_)
    · rw [if_pos q2] at h
      refine fx_iconst (pc' := 29) hF (v := (0 : Int32)) d_WR_isFull_28 rfl rfl ?_
      exact he I _ _ rfl _ d_WR_isFull_29 h
    · rw [if_neg q2] at h
      refine fx_iconst (pc' := 25) hF (v := (1 : Int32)) d_WR_isFull_24 rfl rfl ?_
      refine fx_goto hF (tgt := 29) d_WR_isFull_25 rfl ?_
      exact he I _ _ rfl _ d_WR_isFull_29 h
abbrev rt_FL_add : Room := { frames := 6, cells := 1, slots := 6, locals := 82 }
set_option maxHeartbeats 4000000 in
set_option maxRecDepth 100000 in
theorem cq_FL_add (l : Launch) (hst : l.stackTraces = false) (D : va_G) (aC : Nat → ClassId) (g : Nat → Nat) (n : Nat) (K : Nat → Nat × Nat) (I : Nat → Nat → Int32) (k0 : Nat) (x1 : Int32) (Tg : Nat) (Vv : Int32 × (Nat → Nat → Int32)) (hT0 : 0 ≠ Tg) (hn : ∀ k, (K k).1 < 99 → k < n) (hk0 : (K k0).1 = 5) (h : fn_FL_add K I k0 x1 = some (Tg, Vv)) : fw_Mt l y_FL_add w_FL_add rt_FL_add D aC g n K I Vv.2 [.ref (g k0), .int x1] (th_X Tg) := by
  refine fw_ofGt (cc := b_FL_add) (maxL := 3) (ws' := fw_ws) (by decide +kernel) hn (Nat.le_of_ble_eq_true rfl) rfl ?_
  intro p e s m args below meth c hC hN hT hlk hex
  have hF := hC.1
  have hw : ∀ w ∈ fw_ws, w.before args s = true := fun w hw => hF.2.2.2.2 w (List.mem_cons_of_mem _ hw)
  unfold fn_FL_add at h
  change fw_G0 p l e rt_FL_add s m args below meth c (fw_ZT below D aC g n K Vv.2 (th_X Tg) s) 3 D aC g n K I 0 [(0, .ref (g k0)), (1, .int x1)] []
  refine fx_aload_n (pc' := 1) hF d_FL_add_0 rfl 0 rfl rfl ?_
  obtain ⟨a1, na1, ea1, ka1, h⟩ := fw_ld_some h
  refine fx_getr (pc' := 4) hC hk0 (by decide) rfl iw_FL 5 (by decide) (by decide) rfl na1 ea1 (hw _ wq_1_198) rfl d_FL_add_1 rfl ?_
  refine fx_getiN (pc' := 7) hC ka1 (by decide) rfl iw_WR 2 (by decide) (by decide) rfl (va_Nw.use rfl (hN.1 _ wn_1_141)) rfl d_FL_add_4 rfl ?_
  refine fx_if_eq hF (tgt := 20) (pc' := 10) d_FL_add_7 rfl rfl (fun q2 => ?_) (fun q2 => ?_)
  · rw [if_pos q2] at h
    refine fx_aload_n (pc' := 21) hF d_FL_add_20 rfl 0 rfl rfl ?_
    obtain ⟨a3, na3, ea3, ka3, h⟩ := fw_ld_some h
    refine fx_getr (pc' := 24) hC hk0 (by decide) rfl iw_FL 5 (by decide) (by decide) rfl na3 ea3 (hw _ wq_1_198) rfl d_FL_add_21 rfl ?_
    obtain ⟨r6, I4, c5, h⟩ := fw_bd_some h
    refine fx_callVNi0 (pc' := 27) (As := []) (st := []) hC hN ka3 (by decide) rfl (cp_WR_isFull l D aC g n K I a3 (r6, I4) hn ka3 c5) ⟨va_cnB 0 hF.2.2.2.2 (fw_gN wq_3_59) rfl rfl rfl (hN.1 _ wn_3_56) (hw _ wq_1_6) ⟨by decide +kernel, by decide +kernel, by decide +kernel⟩ ⟨Nat.le_of_ble_eq_true rfl, Nat.le_of_ble_eq_true rfl⟩, hw _ wq_3_58, hw _ wsel_WR_isFull⟩ rfl rfl (Nat.le_of_ble_eq_true rfl) d_FL_add_24 rfl ?_
    refine fx_if_eq hF (tgt := 40) (pc' := 30) d_FL_add_27 rfl rfl (fun q7 => ?_) (fun q7 => ?_)
    · rw [if_pos q7] at h
      obtain ⟨a8, na8, ea8, ka8, h⟩ := fw_ld_some h
      obtain ⟨r11, I9, c10, h⟩ := fw_bd_some h
      obtain ⟨r14, I12, c13, h⟩ := fw_bd_some h
      exact fw_tag h hT0
    · rw [if_neg q7] at h
      cases h
      exact fx_throw (X := "java/lang/IndexOutOfBoundsException") hC hw hN hT hst hT.2.2.1 th_in2 (by decide +kernel) (hw _ wq_3_60) (hw _ wq_1_13) hlk hex (by decide) (by decide) (by decide) (by decide) d_FL_add_30 d_FL_add_33 d_FL_add_34 d_FL_add_36 d_FL_add_39
  · rw [if_neg q2] at h
    cases h
    exact fx_throw (X := "java/lang/IllegalStateException") hC hw hN hT hst hT.2.1 th_in1 (by decide +kernel) (hw _ wq_2_228) (hw _ wq_1_12) hlk hex (by decide) (by decide) (by decide) (by decide) d_FL_add_10 d_FL_add_13 d_FL_add_14 d_FL_add_16 d_FL_add_19
abbrev rt_FL_read : Room := { frames := 6, cells := 1, slots := 6, locals := 82 }
set_option maxHeartbeats 4000000 in
set_option maxRecDepth 100000 in
theorem cq_FL_read (l : Launch) (hst : l.stackTraces = false) (D : va_G) (aC : Nat → ClassId) (g : Nat → Nat) (n : Nat) (K : Nat → Nat × Nat) (I : Nat → Nat → Int32) (k0 : Nat) (x1 : Int32) (Tg : Nat) (Vv : Int32 × (Nat → Nat → Int32)) (hT0 : 0 ≠ Tg) (hn : ∀ k, (K k).1 < 99 → k < n) (hk0 : (K k0).1 = 5) (h : fn_FL_read K I k0 x1 = some (Tg, Vv)) : fw_Mt l y_FL_read w_FL_read rt_FL_read D aC g n K I Vv.2 [.ref (g k0), .int x1] (th_X Tg) := by
  refine fw_ofGt (cc := b_FL_read) (maxL := 3) (ws' := fw_ws) (by decide +kernel) hn (Nat.le_of_ble_eq_true rfl) rfl ?_
  intro p e s m args below meth c hC hN hT hlk hex
  have hF := hC.1
  have hw : ∀ w ∈ fw_ws, w.before args s = true := fun w hw => hF.2.2.2.2 w (List.mem_cons_of_mem _ hw)
  unfold fn_FL_read at h
  have B33 : ∀ (I : Nat → Nat → Int32), fn_FL_read_33 K I  = some (Tg, Vv) → fw_G0 p l e rt_FL_read s m args below meth c (fw_ZT below D aC g n K Vv.2 (th_X Tg) s) 3 D aC g n K I 33 [] [] := by
    intro I h
    unfold fn_FL_read_33 at h
    cases h
    exact fx_throw (X := "java/lang/IndexOutOfBoundsException") hC hw hN hT hst hT.2.2.2.2.1 th_in2 (by decide +kernel) (hw _ wq_3_60) (hw _ wq_1_13) hlk hex (by decide) (by decide) (by decide) (by decide) d_FL_read_33 d_FL_read_36 d_FL_read_37 d_FL_read_39 d_FL_read_42
  change fw_G0 p l e rt_FL_read s m args below meth c (fw_ZT below D aC g n K Vv.2 (th_X Tg) s) 3 D aC g n K I 0 [(0, .ref (g k0)), (1, .int x1)] []
  refine fx_aload_n (pc' := 1) hF d_FL_read_0 rfl 0 rfl rfl ?_
  refine fx_geti (pc' := 4) hC hk0 (by decide) rfl iw_FL 7 (by decide) (by decide) rfl (hw _ wq_1_200) rfl d_FL_read_1 rfl ?_
  refine fx_iconst (pc' := 5) hF (v := (2 : Int32)) d_FL_read_4 rfl rfl ?_
  refine fx_icmp_eq hF (tgt := 18) (pc' := 8) d_FL_read_5 rfl rfl (fun q1 => ?_) (fun q1 => ?_)
  · rw [if_pos q1] at h
    refine fx_iload_n (pc' := 19) hF d_FL_read_18 rfl 1 rfl rfl ?_
    obtain ⟨r4, I2, c3, h⟩ := fw_bd_some h
    refine fx_callSi0 (pc' := 22) (As := [.int x1]) (st := []) hC hN (cp_FL_isEntry l D aC g n K I x1 (r4, I2) hn c3) (va_cwS 1 hF.2.2.2.2 (fw_gS wq_2_209 wq_2_210 wq_1_1 wq_2_211) rfl rfl rfl ⟨by decide +kernel, by decide +kernel, by decide +kernel⟩ ⟨Nat.le_of_ble_eq_true rfl, Nat.le_of_ble_eq_true rfl⟩) rfl rfl (Nat.le_of_ble_eq_true rfl) d_FL_read_19 rfl ?_
    refine fx_if_eq hF (tgt := 33) (pc' := 25) d_FL_read_22 rfl rfl (fun q5 => ?_) (fun q5 => ?_)
    · rw [if_pos q5] at h
      refine fx_lv [] rfl ?_
      exact B33 I2 h
    · rw [if_neg q5] at h
      refine fx_iload_n (pc' := 26) hF d_FL_read_25 rfl 1 rfl rfl ?_
      refine fx_aload_n (pc' := 27) hF d_FL_read_26 rfl 0 rfl rfl ?_
      refine fx_geti (pc' := 30) hC hk0 (by decide) rfl iw_FL 9 (by decide) (by decide) rfl (hw _ wq_1_202) rfl d_FL_read_27 rfl ?_
      refine fx_icmp_le hF (tgt := 43) (pc' := 33) d_FL_read_30 rfl rfl (fun q6 => ?_) (fun q6 => ?_)
      · rw [if_pos q6] at h
        refine fx_aload_n (pc' := 44) hF d_FL_read_43 rfl 0 rfl rfl ?_
        refine fx_iload_n (pc' := 45) hF d_FL_read_44 rfl 1 rfl rfl ?_
        obtain ⟨r9, I7, c8, h⟩ := fw_bd_some h
        refine fx_callVi0 (pc' := 48) (As := [.int x1]) (st := []) hC hN hk0 (by decide) rfl (cp_FL_firstUpWith l D aC g n K I2 k0 x1 (r9, I7) hn hk0 c8) (cwV 1 hF.2.2.2.2 (fw_gV wq_3_90 wq_3_92 wsel_FL_firstUpWith wq_1_1 wq_3_93) rfl rfl rfl ⟨rfl, by decide +kernel, by decide +kernel, by decide +kernel⟩ ⟨Nat.le_of_ble_eq_true rfl, Nat.le_of_ble_eq_true rfl⟩) rfl rfl (Nat.le_of_ble_eq_true rfl) d_FL_read_45 rfl ?_
        refine fx_istore_n (pc' := 49) hF (lv' := [(2, .int r9), (0, .ref (g k0)), (1, .int x1)]) d_FL_read_48 rfl (by decide) rfl rfl ?_
        refine fx_iload_n (pc' := 50) hF d_FL_read_49 rfl 0 rfl rfl ?_
        refine fx_iconst (pc' := 51) hF (v := (-1 : Int32)) d_FL_read_50 rfl rfl ?_
        refine fx_icmp_ne hF (tgt := 64) (pc' := 54) d_FL_read_51 rfl rfl (fun q10 => ?_) (fun q10 => ?_)
        · rw [if_neg q10] at h
          obtain ⟨a11, na11, ea11, ka11, h⟩ := fw_ld_some h
          obtain ⟨q12, h⟩ := fw_gd_some h
          obtain ⟨a13, na13, ea13, ka13, h⟩ := fw_ld_some h
          obtain ⟨a14, na14, ea14, ka14, h⟩ := fw_ld_some h
          obtain ⟨q15, h⟩ := fw_gd_some h
          exact fw_tag h hT0
        · rw [if_pos q10] at h
          cases h
          exact fx_throw (X := "java/lang/UnsupportedOperationException") hC hw hN hT hst hT.2.2.2.2.2 th_in3 (by decide +kernel) (hw _ wq_3_94) (hw _ wq_1_15) hlk hex (by decide) (by decide) (by decide) (by decide) d_FL_read_54 d_FL_read_57 d_FL_read_58 d_FL_read_60 d_FL_read_63
      · rw [if_neg q6] at h
        refine fx_lv [] rfl ?_
        exact B33 I2 h
  · rw [if_neg q1] at h
    cases h
    exact fx_throw (X := "java/lang/IllegalStateException") hC hw hN hT hst hT.2.2.2.1 th_in1 (by decide +kernel) (hw _ wq_2_228) (hw _ wq_1_12) hlk hex (by decide) (by decide) (by decide) (by decide) d_FL_read_8 d_FL_read_11 d_FL_read_12 d_FL_read_14 d_FL_read_17
