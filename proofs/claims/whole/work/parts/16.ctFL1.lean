set_option maxHeartbeats 4000000 in
set_option maxRecDepth 100000 in
theorem ct_FL_nearest (l : Launch) (D : va_G) (aC : Nat → ClassId) (g : Nat → Nat) (n : Nat) (K : Nat → Nat × Nat) (I : Nat → Nat → Int32) (x0 : Int32) (x1 : Int32) (x2 : Int32) (Rr : Int32 × (Nat → Nat → Int32)) (hn : ∀ k, (K k).1 < 99 → k < n) (h : fn_FL_nearest K I x0 x1 x2 = some Rr) : fw_Mi l y_FL_nearest w_FL_nearest r_FL_nearest D aC g n K I [.int x0, .int x1, .int x2] Rr := by
  refine fw_ofGi (cc := b_FL_nearest) (maxL := 3) (ws' := fw_ws) (by decide +kernel) hn (Nat.le_of_ble_eq_true rfl) rfl ?_
  intro p e s m args below meth c A Q hC hN hA he
  have hF := hC.1
  have hw : ∀ w ∈ fw_ws, w.before args s = true := fun w hw => hF.2.2.2.2 w (List.mem_cons_of_mem _ hw)
  unfold fn_FL_nearest at h
  change fw_G p l e r_FL_nearest s m args below meth c 0 0 Q 3 D aC A g n K I 0 [(0, .int x0), (1, .int x1), (2, .int x2)] []
  refine fx_iload_n (pc' := 1) hF d_FL_nearest_0 rfl 1 rfl rfl ?_
  refine fx_iload_n (pc' := 2) hF d_FL_nearest_1 rfl 2 rfl rfl ?_
  refine fx_iload_n (pc' := 3) hF d_FL_nearest_2 rfl 0 rfl rfl ?_
  refine fx_mmin (pc' := 6) hF (hw _ wq_1_27) (hw _ wq_1_28) (hw _ wq_1_2) (hw _ wq_1_29) (Nat.le_of_ble_eq_true rfl) (Nat.le_of_ble_eq_true rfl) ⟨Nat.zero_le _, Nat.zero_le _⟩ d_FL_nearest_3 rfl ?_
  refine fx_mmax (pc' := 9) hF (hw _ wq_1_30) (hw _ wq_1_31) (hw _ wq_1_2) (hw _ wq_1_32) (Nat.le_of_ble_eq_true rfl) (Nat.le_of_ble_eq_true rfl) ⟨Nat.zero_le _, Nat.zero_le _⟩ d_FL_nearest_6 rfl ?_
  exact he I _ _ rfl _ d_FL_nearest_9 h
set_option maxHeartbeats 4000000 in
set_option maxRecDepth 100000 in
theorem ct_FL_setMember (l : Launch) (D : va_G) (aC : Nat → ClassId) (g : Nat → Nat) (n : Nat) (K : Nat → Nat × Nat) (I : Nat → Nat → Int32) (k0 : Nat) (x1 : Int32) (x2 : Int32) (Rr : Int32 × (Nat → Nat → Int32)) (hn : ∀ k, (K k).1 < 99 → k < n) (hk0 : (K k0).1 = 5) (h : fn_FL_setMember K I k0 x1 x2 = some Rr) : fw_Mi l y_FL_setMember w_FL_setMember r_FL_setMember D aC g n K I [.ref (g k0), .int x1, .int x2] Rr := by
  refine fw_ofGi (cc := b_FL_setMember) (maxL := 3) (ws' := fw_ws) (by decide +kernel) hn (Nat.le_of_ble_eq_true rfl) rfl ?_
  intro p e s m args below meth c A Q hC hN hA he
  have hF := hC.1
  have hw : ∀ w ∈ fw_ws, w.before args s = true := fun w hw => hF.2.2.2.2 w (List.mem_cons_of_mem _ hw)
  unfold fn_FL_setMember at h
  change fw_G p l e r_FL_setMember s m args below meth c 0 0 Q 3 D aC A g n K I 0 [(0, .ref (g k0)), (1, .int x1), (2, .int x2)] []
  refine fx_iload_n (pc' := 1) hF d_FL_setMember_0 rfl 1 rfl rfl ?_
  refine fx_iload_n (pc' := 2) hF d_FL_setMember_1 rfl 2 rfl rfl ?_
  refine fx_iadd (pc' := 3) hF d_FL_setMember_2 rfl ?_
  refine fx_aload_n (pc' := 4) hF d_FL_setMember_3 rfl 0 rfl rfl ?_
  refine fx_geti (pc' := 7) hC hk0 (by decide) rfl iw_FL 0 (by decide) (by decide) rfl (hw _ wq_1_193) rfl d_FL_setMember_4 rfl ?_
  obtain ⟨q1, h⟩ := fw_gd_some h
  refine fx_irem (pc' := 8) hF d_FL_setMember_7 (of_decide_eq_true q1) rfl ?_
  exact he I _ _ rfl _ d_FL_setMember_8 h
set_option maxHeartbeats 4000000 in
set_option maxRecDepth 100000 in
theorem ct_FL_sendToSet (l : Launch) (D : va_G) (aC : Nat → ClassId) (g : Nat → Nat) (n : Nat) (K : Nat → Nat × Nat) (I : Nat → Nat → Int32) (k0 : Nat) (x1 : Int32) (x2 : Int32) (x3 : Int32) (x4 : Int32) (x5 : Int32) (x6 : Int32) (x7 : Int32) (Rr : Int32 × (Nat → Nat → Int32)) (hn : ∀ k, (K k).1 < 99 → k < n) (hk0 : (K k0).1 = 5) (h : fn_FL_sendToSet K I k0 x1 x2 x3 x4 x5 x6 x7 = some Rr) : fw_Mi l y_FL_sendToSet w_FL_sendToSet r_FL_sendToSet D aC g n K I [.ref (g k0), .int x1, .int x2, .int x3, .int x4, .int x5, .int x6, .int x7] Rr := by
  refine fw_ofGi (cc := b_FL_sendToSet) (maxL := 11) (ws' := fw_ws) (by decide +kernel) hn (Nat.le_of_ble_eq_true rfl) rfl ?_
  intro p e s m args below meth c A Q hC hN hA he
  have hF := hC.1
  have hw : ∀ w ∈ fw_ws, w.before args s = true := fun w hw => hF.2.2.2.2 w (List.mem_cons_of_mem _ hw)
  unfold fn_FL_sendToSet at h
  have B6 : ∀ (f : Nat) (I : Nat → Nat → Int32) (x1 : Int32) (x2 : Int32) (x3 : Int32) (x4 : Int32) (x5 : Int32) (x6 : Int32) (x7 : Int32) (x8 : Int32) (x9 : Int32), fn_FL_sendToSet_6 K f I k0 x1 x2 x3 x4 x5 x6 x7 x8 x9 = some Rr → fw_G p l e r_FL_sendToSet s m args below meth c 0 0 Q 11 D aC A g n K I 6 [(0, .ref (g k0)), (1, .int x1), (2, .int x2), (3, .int x3), (4, .int x4), (5, .int x5), (6, .int x6), (7, .int x7), (8, .int x8), (9, .int x9)] [] := by
    intro f
    induction f with
    | zero =>
      intro I x1 x2 x3 x4 x5 x6 x7 x8 x9 h
      rw [fn_FL_sendToSet_6] at h
      cases h
    | succ f ih =>
      intro I x1 x2 x3 x4 x5 x6 x7 x8 x9 h
      rw [fn_FL_sendToSet_6] at h
      refine fx_iload (pc' := 8) hF d_FL_sendToSet_6 9 rfl rfl ?_
      refine fx_aload_n (pc' := 9) hF d_FL_sendToSet_8 rfl 0 rfl rfl ?_
      refine fx_geti (pc' := 12) hC hk0 (by decide) rfl iw_FL 1 (by decide) (by decide) rfl (hw _ wq_1_194) rfl d_FL_sendToSet_9 rfl ?_
      refine fx_icmp_ge hF (tgt := 61) (pc' := 15) d_FL_sendToSet_12 rfl rfl (fun q1 => ?_) (fun q1 => ?_)
      · rw [if_pos q1] at h
        refine fx_iload (pc' := 63) hF d_FL_sendToSet_61 8 rfl rfl ?_
        exact he I _ _ rfl _ d_FL_sendToSet_63 h
      · rw [if_neg q1] at h
        refine fx_aload_n (pc' := 16) hF d_FL_sendToSet_15 rfl 0 rfl rfl ?_
        refine fx_iload_n (pc' := 17) hF d_FL_sendToSet_16 rfl 3 rfl rfl ?_
        refine fx_iload (pc' := 19) hF d_FL_sendToSet_17 9 rfl rfl ?_
        obtain ⟨r4, I2, c3, h⟩ := fw_bd_some h
        refine fx_callVi (pc' := 22) (As := [.int x3, .int x9]) (st := []) hC hN hA hk0 (by decide) rfl (ct_FL_setMember l D aC g n K I k0 x3 x9 (r4, I2) hn hk0 c3) (cwV 2 hF.2.2.2.2 (fw_gV wq_2_10 wq_2_12 wsel_FL_setMember wq_1_1 wq_2_13) rfl rfl rfl ⟨rfl, by decide +kernel, by decide +kernel, by decide +kernel⟩ ⟨Nat.le_of_ble_eq_true rfl, Nat.le_of_ble_eq_true rfl⟩) ⟨Nat.zero_le _, Nat.zero_le _⟩ rfl rfl (Nat.le_of_ble_eq_true rfl) d_FL_sendToSet_19 rfl ?_
        refine fx_istore (pc' := 24) hF (lv' := [(10, .int r4), (0, .ref (g k0)), (1, .int x1), (2, .int x2), (3, .int x3), (4, .int x4), (5, .int x5), (6, .int x6), (7, .int x7), (8, .int x8), (9, .int x9)]) d_FL_sendToSet_22 (by decide) rfl rfl ?_
        refine fx_iload (pc' := 26) hF d_FL_sendToSet_24 8 rfl rfl ?_
        refine fx_iconst (pc' := 27) hF (v := (1 : Int32)) d_FL_sendToSet_26 rfl rfl ?_
        refine fx_iload (pc' := 29) hF d_FL_sendToSet_27 0 rfl rfl ?_
        refine fx_ishl (pc' := 30) hF d_FL_sendToSet_29 rfl ?_
        refine fx_iand (pc' := 31) hF d_FL_sendToSet_30 rfl ?_
        refine fx_if_ne hF (tgt := 55) (pc' := 34) d_FL_sendToSet_31 rfl rfl (fun q5 => ?_) (fun q5 => ?_)
        · rw [if_neg q5] at h
          refine fx_iinc (pc' := 58) hF (v := x9 + 1) (lv' := [(9, .int (x9 + 1)), (10, .int r4), (0, .ref (g k0)), (1, .int x1), (2, .int x2), (3, .int x3), (4, .int x4), (5, .int x5), (6, .int x6), (7, .int x7), (8, .int x8)]) d_FL_sendToSet_55 10 rfl rfl (by decide) rfl rfl ?_
          refine fx_goto hF (tgt := 6) d_FL_sendToSet_58 rfl ?_
          refine fx_lv [2, 3, 4, 5, 6, 7, 8, 9, 10, 0] rfl ?_
          exact ih I2 x1 x2 x3 x4 x5 x6 x7 x8 (x9 + 1) h
        · rw [if_pos q5] at h
          refine fx_aload_n (pc' := 35) hF d_FL_sendToSet_34 rfl 1 rfl rfl ?_
          obtain ⟨a6, na6, ea6, ka6, h⟩ := fw_ld_some h
          refine fx_getr (pc' := 38) hC hk0 (by decide) rfl iw_FL 4 (by decide) (by decide) rfl na6 ea6 (hw _ wq_1_197) rfl d_FL_sendToSet_35 rfl ?_
          refine fx_iload_n (pc' := 39) hF d_FL_sendToSet_38 rfl 2 rfl rfl ?_
          refine fx_iload_n (pc' := 40) hF d_FL_sendToSet_39 rfl 3 rfl rfl ?_
          refine fx_iload (pc' := 42) hF d_FL_sendToSet_40 0 rfl rfl ?_
          refine fx_iload_n (pc' := 43) hF d_FL_sendToSet_42 rfl 4 rfl rfl ?_
          refine fx_iload (pc' := 45) hF d_FL_sendToSet_43 5 rfl rfl ?_
          refine fx_iload (pc' := 47) hF d_FL_sendToSet_45 6 rfl rfl ?_
          refine fx_iload (pc' := 49) hF d_FL_sendToSet_47 7 rfl rfl ?_
          obtain ⟨I7, c8, h⟩ := fw_bv_some h
          refine fx_callVNv (pc' := 52) (As := [.int x1, .int x2, .int r4, .int x3, .int x4, .int x5, .int x6]) (st := []) hC hN hA ka6 (by decide) rfl (ct_CH_send l D aC g n K I2 a6 x1 x2 r4 x3 x4 x5 x6 I7 hn ka6 c8) ⟨va_cnB 7 hF.2.2.2.2 (fw_gN wq_2_17) rfl rfl rfl (hN.1 _ wn_2_14) (hw _ wq_1_4) ⟨by decide +kernel, by decide +kernel, by decide +kernel⟩ ⟨Nat.le_of_ble_eq_true rfl, Nat.le_of_ble_eq_true rfl⟩, hw _ wq_2_16, hw _ wsel_CH_send⟩ ⟨Nat.zero_le _, Nat.zero_le _⟩ rfl rfl (Nat.le_of_ble_eq_true rfl) d_FL_sendToSet_49 rfl ?_
          refine fx_iinc (pc' := 55) hF (v := x8 + 1) (lv' := [(8, .int (x8 + 1)), (10, .int r4), (0, .ref (g k0)), (1, .int x1), (2, .int x2), (3, .int x3), (4, .int x4), (5, .int x5), (6, .int x6), (7, .int x7), (9, .int x9)]) d_FL_sendToSet_52 9 rfl rfl (by decide) rfl rfl ?_
          refine fx_iinc (pc' := 58) hF (v := x9 + 1) (lv' := [(9, .int (x9 + 1)), (8, .int (x8 + 1)), (10, .int r4), (0, .ref (g k0)), (1, .int x1), (2, .int x2), (3, .int x3), (4, .int x4), (5, .int x5), (6, .int x6), (7, .int x7)]) d_FL_sendToSet_55 10 rfl rfl (by decide) rfl rfl ?_
          refine fx_goto hF (tgt := 6) d_FL_sendToSet_58 rfl ?_
          refine fx_lv [3, 4, 5, 6, 7, 8, 9, 10, 1, 0] rfl ?_
          exact ih I7 x1 x2 x3 x4 x5 x6 x7 (x8 + 1) (x9 + 1) h
  change fw_G p l e r_FL_sendToSet s m args below meth c 0 0 Q 11 D aC A g n K I 0 [(0, .ref (g k0)), (1, .int x1), (2, .int x2), (3, .int x3), (4, .int x4), (5, .int x5), (6, .int x6), (7, .int x7)] []
  refine fx_iconst (pc' := 1) hF (v := (0 : Int32)) d_FL_sendToSet_0 rfl rfl ?_
  refine fx_istore (pc' := 3) hF (lv' := [(8, .int (0 : Int32)), (0, .ref (g k0)), (1, .int x1), (2, .int x2), (3, .int x3), (4, .int x4), (5, .int x5), (6, .int x6), (7, .int x7)]) d_FL_sendToSet_1 (by decide) rfl rfl ?_
  refine fx_iconst (pc' := 4) hF (v := (0 : Int32)) d_FL_sendToSet_3 rfl rfl ?_
  refine fx_istore (pc' := 6) hF (lv' := [(9, .int (0 : Int32)), (8, .int (0 : Int32)), (0, .ref (g k0)), (1, .int x1), (2, .int x2), (3, .int x3), (4, .int x4), (5, .int x5), (6, .int x6), (7, .int x7)]) d_FL_sendToSet_4 (by decide) rfl rfl ?_
  refine fx_lv [2, 3, 4, 5, 6, 7, 8, 9, 1, 0] rfl ?_
  exact B6 200 I x1 x2 x3 x4 x5 x6 x7 (0 : Int32) (0 : Int32) h
set_option maxHeartbeats 4000000 in
set_option maxRecDepth 100000 in
theorem ct_FL_sendWritersAdd (l : Launch) (D : va_G) (aC : Nat → ClassId) (g : Nat → Nat) (n : Nat) (K : Nat → Nat × Nat) (I : Nat → Nat → Int32) (k0 : Nat) (x1 : Int32) (Rr : Int32 × (Nat → Nat → Int32)) (hn : ∀ k, (K k).1 < 99 → k < n) (hk0 : (K k0).1 = 5) (h : fn_FL_sendWritersAdd K I k0 x1 = some Rr) : fw_Mi l y_FL_sendWritersAdd w_FL_sendWritersAdd r_FL_sendWritersAdd D aC g n K I [.ref (g k0), .int x1] Rr := by
  refine fw_ofGi (cc := b_FL_sendWritersAdd) (maxL := 3) (ws' := fw_ws) (by decide +kernel) hn (Nat.le_of_ble_eq_true rfl) rfl ?_
  intro p e s m args below meth c A Q hC hN hA he
  have hF := hC.1
  have hw : ∀ w ∈ fw_ws, w.before args s = true := fun w hw => hF.2.2.2.2 w (List.mem_cons_of_mem _ hw)
  unfold fn_FL_sendWritersAdd at h
  change fw_G p l e r_FL_sendWritersAdd s m args below meth c 0 0 Q 3 D aC A g n K I 0 [(0, .ref (g k0)), (1, .int x1)] []
  refine fx_aload_n (pc' := 1) hF d_FL_sendWritersAdd_0 rfl 0 rfl rfl ?_
  obtain ⟨a1, na1, ea1, ka1, h⟩ := fw_ld_some h
  refine fx_getr (pc' := 4) hC hk0 (by decide) rfl iw_FL 5 (by decide) (by decide) rfl na1 ea1 (hw _ wq_1_198) rfl d_FL_sendWritersAdd_1 rfl ?_
  obtain ⟨a2, na2, ea2, ka2, h⟩ := fw_ld_some h
  refine fx_getrN (pc' := 7) hC ka1 (by decide) rfl iw_WR 0 (by decide) (by decide) rfl na2 ea2 (va_Nw.use rfl (hN.1 _ wn_1_137)) rfl d_FL_sendWritersAdd_4 rfl ?_
  refine fx_iload_n (pc' := 8) hF d_FL_sendWritersAdd_7 rfl 1 rfl rfl ?_
  obtain ⟨q3, h⟩ := fw_gd_some h
  refine fx_iald (pc' := 9) hC ka2 q3 d_FL_sendWritersAdd_8 rfl ?_
  refine fx_istore_n (pc' := 10) hF (lv' := [(2, .int (I a2 x1.toNatClampNeg)), (0, .ref (g k0)), (1, .int x1)]) d_FL_sendWritersAdd_9 rfl (by decide) rfl rfl ?_
  refine fx_aload_n (pc' := 11) hF d_FL_sendWritersAdd_10 rfl 1 rfl rfl ?_
  refine fx_iconst (pc' := 12) hF (v := (0 : Int32)) d_FL_sendWritersAdd_11 rfl rfl ?_
  refine fx_iconst (pc' := 13) hF (v := (0 : Int32)) d_FL_sendWritersAdd_12 rfl rfl ?_
  refine fx_iload_n (pc' := 14) hF d_FL_sendWritersAdd_13 rfl 2 rfl rfl ?_
  refine fx_iload_n (pc' := 15) hF d_FL_sendWritersAdd_14 rfl 0 rfl rfl ?_
  refine fx_iconst (pc' := 16) hF (v := (0 : Int32)) d_FL_sendWritersAdd_15 rfl rfl ?_
  refine fx_aload_n (pc' := 17) hF d_FL_sendWritersAdd_16 rfl 1 rfl rfl ?_
  obtain ⟨a4, na4, ea4, ka4, h⟩ := fw_ld_some h
  refine fx_getr (pc' := 20) hC hk0 (by decide) rfl iw_FL 5 (by decide) (by decide) rfl na4 ea4 (hw _ wq_1_198) rfl d_FL_sendWritersAdd_17 rfl ?_
  refine fx_getiN (pc' := 23) hC ka4 (by decide) rfl iw_WR 4 (by decide) (by decide) rfl (va_Nw.use rfl (hN.1 _ wn_1_145)) rfl d_FL_sendWritersAdd_20 rfl ?_
  refine fx_aload_n (pc' := 24) hF d_FL_sendWritersAdd_23 rfl 1 rfl rfl ?_
  obtain ⟨a5, na5, ea5, ka5, h⟩ := fw_ld_some h
  refine fx_getr (pc' := 27) hC hk0 (by decide) rfl iw_FL 5 (by decide) (by decide) rfl na5 ea5 (hw _ wq_1_198) rfl d_FL_sendWritersAdd_24 rfl ?_
  obtain ⟨a6, na6, ea6, ka6, h⟩ := fw_ld_some h
  refine fx_getrN (pc' := 30) hC ka5 (by decide) rfl iw_WR 1 (by decide) (by decide) rfl na6 ea6 (va_Nw.use rfl (hN.1 _ wn_1_139)) rfl d_FL_sendWritersAdd_27 rfl ?_
  refine fx_iload_n (pc' := 31) hF d_FL_sendWritersAdd_30 rfl 2 rfl rfl ?_
  obtain ⟨q7, h⟩ := fw_gd_some h
  refine fx_iald (pc' := 32) hC ka6 q7 d_FL_sendWritersAdd_31 rfl ?_
  obtain ⟨r10, I8, c9, h⟩ := fw_bd_some h
  refine fx_callVi (pc' := 35) (As := [.int (0 : Int32), .int (0 : Int32), .int x1, .int (I a2 x1.toNatClampNeg), .int (0 : Int32), .int (I a4 4), .int (I a6 x1.toNatClampNeg)]) (st := []) hC hN hA hk0 (by decide) rfl (ct_FL_sendToSet l D aC g n K I k0 (0 : Int32) (0 : Int32) x1 (I a2 x1.toNatClampNeg) (0 : Int32) (I a4 4) (I a6 x1.toNatClampNeg) (r10, I8) hn hk0 c9) (cwV 7 hF.2.2.2.2 (fw_gV wq_2_6 wq_2_8 wsel_FL_sendToSet wq_1_1 wq_2_9) rfl rfl rfl ⟨rfl, by decide +kernel, by decide +kernel, by decide +kernel⟩ ⟨Nat.le_of_ble_eq_true rfl, Nat.le_of_ble_eq_true rfl⟩) ⟨Nat.zero_le _, Nat.zero_le _⟩ rfl rfl (Nat.le_of_ble_eq_true rfl) d_FL_sendWritersAdd_32 rfl ?_
  exact he I8 _ _ rfl _ d_FL_sendWritersAdd_35 h
set_option maxHeartbeats 4000000 in
set_option maxRecDepth 100000 in
theorem ct_FL_add (l : Launch) (D : va_G) (aC : Nat → ClassId) (g : Nat → Nat) (n : Nat) (K : Nat → Nat × Nat) (I : Nat → Nat → Int32) (k0 : Nat) (x1 : Int32) (Rr : Int32 × (Nat → Nat → Int32)) (hn : ∀ k, (K k).1 < 99 → k < n) (hk0 : (K k0).1 = 5) (h : fn_FL_add K I k0 x1 = some (0, Rr)) : fw_Mi l y_FL_add w_FL_add r_FL_add D aC g n K I [.ref (g k0), .int x1] Rr := by
  refine fw_ofGi (cc := b_FL_add) (maxL := 3) (ws' := fw_ws) (by decide +kernel) hn (Nat.le_of_ble_eq_true rfl) rfl ?_
  intro p e s m args below meth c A Q hC hN hA he
  have hF := hC.1
  have hw : ∀ w ∈ fw_ws, w.before args s = true := fun w hw => hF.2.2.2.2 w (List.mem_cons_of_mem _ hw)
  unfold fn_FL_add at h
  change fw_G p l e r_FL_add s m args below meth c 0 0 Q 3 D aC A g n K I 0 [(0, .ref (g k0)), (1, .int x1)] []
  refine fx_aload_n (pc' := 1) hF d_FL_add_0 rfl 0 rfl rfl ?_
  obtain ⟨a1, na1, ea1, ka1, h⟩ := fw_ld_some h
  refine fx_getr (pc' := 4) hC hk0 (by decide) rfl iw_FL 5 (by decide) (by decide) rfl na1 ea1 (hw _ wq_1_198) rfl d_FL_add_1 rfl ?_
  refine fx_getiN (pc' := 7) hC ka1 (by decide) rfl iw_WR 2 (by decide) (by decide) rfl (va_Nw.use rfl (hN.1 _ wn_1_141)) rfl d_FL_add_4 rfl ?_
  refine fx_if_eq hF (tgt := 20) (pc' := 10) d_FL_add_7 rfl rfl (fun q2 => ?_) (fun q2 => ?_)
  · rw [if_pos q2] at h
    refine fx_aload_n (pc' := 21) hF d_FL_add_20 rfl 0 rfl rfl ?_
    obtain ⟨a3, na3, ea3, ka3, h⟩ := fw_ld_some h
    refine fx_getr (pc' := 24) hC hk0 (by decide) rfl iw_FL 5 (by decide) (by decide) rfl na3 ea3 (hw _ wq_1_198) rfl d_FL_add_21 rfl ?_
    obtain ⟨r6, I4, c5, h⟩ := fw_bd_some h
    refine fx_callVNi (pc' := 27) (As := []) (st := []) hC hN hA ka3 (by decide) rfl (ct_WR_isFull l D aC g n K I a3 (r6, I4) hn ka3 c5) ⟨va_cnB 0 hF.2.2.2.2 (fw_gN wq_3_59) rfl rfl rfl (hN.1 _ wn_3_56) (hw _ wq_1_6) ⟨by decide +kernel, by decide +kernel, by decide +kernel⟩ ⟨Nat.le_of_ble_eq_true rfl, Nat.le_of_ble_eq_true rfl⟩, hw _ wq_3_58, hw _ wsel_WR_isFull⟩ ⟨Nat.zero_le _, Nat.zero_le _⟩ rfl rfl (Nat.le_of_ble_eq_true rfl) d_FL_add_24 rfl ?_
    refine fx_if_eq hF (tgt := 40) (pc' := 30) d_FL_add_27 rfl rfl (fun q7 => ?_) (fun q7 => ?_)
    · rw [if_pos q7] at h
      refine fx_aload_n (pc' := 41) hF d_FL_add_40 rfl 0 rfl rfl ?_
      obtain ⟨a8, na8, ea8, ka8, h⟩ := fw_ld_some h
      refine fx_getr (pc' := 44) hC hk0 (by decide) rfl iw_FL 5 (by decide) (by decide) rfl na8 ea8 (hw _ wq_1_198) rfl d_FL_add_41 rfl ?_
      refine fx_iload_n (pc' := 45) hF d_FL_add_44 rfl 1 rfl rfl ?_
      obtain ⟨r11, I9, c10, h⟩ := fw_bd_some h
      refine fx_callVNi (pc' := 48) (As := [.int x1]) (st := []) hC hN hA ka8 (by decide) rfl (ct_WR_append l D aC g n K I4 a8 x1 (r11, I9) hn ka8 c10) ⟨va_cnB 1 hF.2.2.2.2 (fw_gN wq_3_79) rfl rfl rfl (hN.1 _ wn_3_76) (hw _ wq_1_6) ⟨by decide +kernel, by decide +kernel, by decide +kernel⟩ ⟨Nat.le_of_ble_eq_true rfl, Nat.le_of_ble_eq_true rfl⟩, hw _ wq_3_78, hw _ wsel_WR_append⟩ ⟨Nat.zero_le _, Nat.zero_le _⟩ rfl rfl (Nat.le_of_ble_eq_true rfl) d_FL_add_45 rfl ?_
      refine fx_istore_n (pc' := 49) hF (lv' := [(2, .int r11), (0, .ref (g k0)), (1, .int x1)]) d_FL_add_48 rfl (by decide) rfl rfl ?_
      refine fx_aload_n (pc' := 50) hF d_FL_add_49 rfl 1 rfl rfl ?_
      refine fx_iload_n (pc' := 51) hF d_FL_add_50 rfl 0 rfl rfl ?_
      obtain ⟨r14, I12, c13, h⟩ := fw_bd_some h
      refine fx_callVi (pc' := 54) (As := [.int r11]) (st := []) hC hN hA hk0 (by decide) rfl (ct_FL_sendWritersAdd l D aC g n K I9 k0 r11 (r14, I12) hn hk0 c13) (cwV 1 hF.2.2.2.2 (fw_gV wq_2_2 wq_2_4 wsel_FL_sendWritersAdd wq_1_1 wq_2_5) rfl rfl rfl ⟨rfl, by decide +kernel, by decide +kernel, by decide +kernel⟩ ⟨Nat.le_of_ble_eq_true rfl, Nat.le_of_ble_eq_true rfl⟩) ⟨Nat.zero_le _, Nat.zero_le _⟩ rfl rfl (Nat.le_of_ble_eq_true rfl) d_FL_add_51 rfl ?_
      refine fx_pop (pc' := 55) hF d_FL_add_54 rfl rfl ?_
      refine fx_iload_n (pc' := 56) hF d_FL_add_55 rfl 0 rfl rfl ?_
      exact he I12 _ _ rfl _ d_FL_add_56 (fw_tag0 h)
    · rw [if_neg q7] at h
      exact fw_tag h (by decide)
  · rw [if_neg q2] at h
    exact fw_tag h (by decide)
set_option maxHeartbeats 4000000 in
set_option maxRecDepth 100000 in
theorem ct_FL_resend (l : Launch) (D : va_G) (aC : Nat → ClassId) (g : Nat → Nat) (n : Nat) (K : Nat → Nat × Nat) (I : Nat → Nat → Int32) (k0 : Nat) (x1 : Int32) (Rr : Int32 × (Nat → Nat → Int32)) (hn : ∀ k, (K k).1 < 99 → k < n) (hk0 : (K k0).1 = 5) (h : fn_FL_resend K I k0 x1 = some Rr) : fw_Mi l y_FL_resend w_FL_resend r_FL_resend D aC g n K I [.ref (g k0), .int x1] Rr := by
  refine fw_ofGi (cc := b_FL_resend) (maxL := 2) (ws' := fw_ws) (by decide +kernel) hn (Nat.le_of_ble_eq_true rfl) rfl ?_
  intro p e s m args below meth c A Q hC hN hA he
  have hF := hC.1
  have hw : ∀ w ∈ fw_ws, w.before args s = true := fun w hw => hF.2.2.2.2 w (List.mem_cons_of_mem _ hw)
  unfold fn_FL_resend at h
  change fw_G p l e r_FL_resend s m args below meth c 0 0 Q 2 D aC A g n K I 0 [(0, .ref (g k0)), (1, .int x1)] []
  refine fx_aload_n (pc' := 1) hF d_FL_resend_0 rfl 0 rfl rfl ?_
  obtain ⟨a1, na1, ea1, ka1, h⟩ := fw_ld_some h
  refine fx_getr (pc' := 4) hC hk0 (by decide) rfl iw_FL 5 (by decide) (by decide) rfl na1 ea1 (hw _ wq_1_198) rfl d_FL_resend_1 rfl ?_
  refine fx_getiN (pc' := 7) hC ka1 (by decide) rfl iw_WR 2 (by decide) (by decide) rfl (va_Nw.use rfl (hN.1 _ wn_1_141)) rfl d_FL_resend_4 rfl ?_
  refine fx_if_ne hF (tgt := 21) (pc' := 10) d_FL_resend_7 rfl rfl (fun q2 => ?_) (fun q2 => ?_)
  · rw [if_neg q2] at h
    refine fx_iconst (pc' := 22) hF (v := (-1 : Int32)) d_FL_resend_21 rfl rfl ?_
    exact he I _ _ rfl _ d_FL_resend_22 h
  · rw [if_pos q2] at h
    refine fx_aload_n (pc' := 11) hF d_FL_resend_10 rfl 0 rfl rfl ?_
    obtain ⟨a3, na3, ea3, ka3, h⟩ := fw_ld_some h
    refine fx_getr (pc' := 14) hC hk0 (by decide) rfl iw_FL 5 (by decide) (by decide) rfl na3 ea3 (hw _ wq_1_198) rfl d_FL_resend_11 rfl ?_
    refine fx_iload_n (pc' := 15) hF d_FL_resend_14 rfl 1 rfl rfl ?_
    obtain ⟨r6, I4, c5, h⟩ := fw_bd_some h
    refine fx_callVNi (pc' := 18) (As := [.int x1]) (st := []) hC hN hA ka3 (by decide) rfl (ct_WR_knows l D aC g n K I a3 x1 (r6, I4) hn ka3 c5) ⟨va_cnB 1 hF.2.2.2.2 (fw_gN wq_1_231) rfl rfl rfl (hN.1 _ wn_1_228) (hw _ wq_1_6) ⟨by decide +kernel, by decide +kernel, by decide +kernel⟩ ⟨Nat.le_of_ble_eq_true rfl, Nat.le_of_ble_eq_true rfl⟩, hw _ wq_1_230, hw _ wsel_WR_knows⟩ ⟨Nat.zero_le _, Nat.zero_le _⟩ rfl rfl (Nat.le_of_ble_eq_true rfl) d_FL_resend_15 rfl ?_
    refine fx_if_ne hF (tgt := 23) (pc' := 21) d_FL_resend_18 rfl rfl (fun q7 => ?_) (fun q7 => ?_)
    · rw [if_neg q7] at h
      refine fx_iload_n (pc' := 24) hF d_FL_resend_23 rfl 1 rfl rfl ?_
      refine fx_aload_n (pc' := 25) hF d_FL_resend_24 rfl 0 rfl rfl ?_
      obtain ⟨a8, na8, ea8, ka8, h⟩ := fw_ld_some h
      refine fx_getr (pc' := 28) hC hk0 (by decide) rfl iw_FL 5 (by decide) (by decide) rfl na8 ea8 (hw _ wq_1_198) rfl d_FL_resend_25 rfl ?_
      refine fx_getiN (pc' := 31) hC ka8 (by decide) rfl iw_WR 4 (by decide) (by decide) rfl (va_Nw.use rfl (hN.1 _ wn_1_145)) rfl d_FL_resend_28 rfl ?_
      refine fx_icmp_gt hF (tgt := 51) (pc' := 34) d_FL_resend_31 rfl rfl (fun q9 => ?_) (fun q9 => ?_)
      · rw [if_pos q9] at h
        refine fx_aload_n (pc' := 52) hF d_FL_resend_51 rfl 0 rfl rfl ?_
        refine fx_iload_n (pc' := 53) hF d_FL_resend_52 rfl 1 rfl rfl ?_
        obtain ⟨r12, I10, c11, h⟩ := fw_bd_some h
        refine fx_callVi (pc' := 56) (As := [.int x1]) (st := []) hC hN hA hk0 (by decide) rfl (ct_FL_sendWritersAdd l D aC g n K I4 k0 x1 (r12, I10) hn hk0 c11) (cwV 1 hF.2.2.2.2 (fw_gV wq_2_2 wq_2_4 wsel_FL_sendWritersAdd wq_1_1 wq_2_5) rfl rfl rfl ⟨rfl, by decide +kernel, by decide +kernel, by decide +kernel⟩ ⟨Nat.le_of_ble_eq_true rfl, Nat.le_of_ble_eq_true rfl⟩) ⟨Nat.zero_le _, Nat.zero_le _⟩ rfl rfl (Nat.le_of_ble_eq_true rfl) d_FL_resend_53 rfl ?_
        exact he I10 _ _ rfl _ d_FL_resend_56 h
      · rw [if_neg q9] at h
        refine fx_aload_n (pc' := 35) hF d_FL_resend_34 rfl 0 rfl rfl ?_
        obtain ⟨a13, na13, ea13, ka13, h⟩ := fw_ld_some h
        refine fx_getr (pc' := 38) hC hk0 (by decide) rfl iw_FL 5 (by decide) (by decide) rfl na13 ea13 (hw _ wq_1_198) rfl d_FL_resend_35 rfl ?_
        refine fx_iload_n (pc' := 39) hF d_FL_resend_38 rfl 1 rfl rfl ?_
        obtain ⟨r16, I14, c15, h⟩ := fw_bd_some h
        refine fx_callVNi (pc' := 42) (As := [.int x1]) (st := []) hC hN hA ka13 (by decide) rfl (ct_WR_countAnswers l D aC g n K I4 a13 x1 (r16, I14) hn ka13 c15) ⟨va_cnB 1 hF.2.2.2.2 (fw_gN wq_1_235) rfl rfl rfl (hN.1 _ wn_1_232) (hw _ wq_1_6) ⟨by decide +kernel, by decide +kernel, by decide +kernel⟩ ⟨Nat.le_of_ble_eq_true rfl, Nat.le_of_ble_eq_true rfl⟩, hw _ wq_1_234, hw _ wsel_WR_countAnswers⟩ ⟨Nat.zero_le _, Nat.zero_le _⟩ rfl rfl (Nat.le_of_ble_eq_true rfl) d_FL_resend_39 rfl ?_
        refine fx_aload_n (pc' := 43) hF d_FL_resend_42 rfl 0 rfl rfl ?_
        refine fx_geti (pc' := 46) hC hk0 (by decide) rfl iw_FL 1 (by decide) (by decide) rfl (hw _ wq_1_194) rfl d_FL_resend_43 rfl ?_
        refine fx_icmp_ne hF (tgt := 51) (pc' := 49) d_FL_resend_46 rfl rfl (fun q17 => ?_) (fun q17 => ?_)
        · rw [if_neg q17] at h
          refine fx_aload_n (pc' := 52) hF d_FL_resend_51 rfl 0 rfl rfl ?_
          refine fx_iload_n (pc' := 53) hF d_FL_resend_52 rfl 1 rfl rfl ?_
          obtain ⟨r20, I18, c19, h⟩ := fw_bd_some h
          refine fx_callVi (pc' := 56) (As := [.int x1]) (st := []) hC hN hA hk0 (by decide) rfl (ct_FL_sendWritersAdd l D aC g n K I14 k0 x1 (r20, I18) hn hk0 c19) (cwV 1 hF.2.2.2.2 (fw_gV wq_2_2 wq_2_4 wsel_FL_sendWritersAdd wq_1_1 wq_2_5) rfl rfl rfl ⟨rfl, by decide +kernel, by decide +kernel, by decide +kernel⟩ ⟨Nat.le_of_ble_eq_true rfl, Nat.le_of_ble_eq_true rfl⟩) ⟨Nat.zero_le _, Nat.zero_le _⟩ rfl rfl (Nat.le_of_ble_eq_true rfl) d_FL_resend_53 rfl ?_
          exact he I18 _ _ rfl _ d_FL_resend_56 h
        · rw [if_pos q17] at h
          refine fx_iconst (pc' := 50) hF (v := (-1 : Int32)) d_FL_resend_49 rfl rfl ?_
          exact he I14 _ _ rfl _ d_FL_resend_50 h
    · rw [if_pos q7] at h
      refine fx_iconst (pc' := 22) hF (v := (-1 : Int32)) d_FL_resend_21 rfl rfl ?_
      exact he I4 _ _ rfl _ d_FL_resend_22 h
set_option maxHeartbeats 4000000 in
set_option maxRecDepth 100000 in
theorem ct_FL_shutLedger (l : Launch) (D : va_G) (aC : Nat → ClassId) (g : Nat → Nat) (n : Nat) (K : Nat → Nat × Nat) (I : Nat → Nat → Int32) (k0 : Nat) (x1 : Int32) (Rr : Nat → Nat → Int32) (hn : ∀ k, (K k).1 < 99 → k < n) (hk0 : (K k0).1 = 5) (h : fn_FL_shutLedger K I k0 x1 = some Rr) : fw_Mv l y_FL_shutLedger w_FL_shutLedger r_FL_shutLedger D aC g n K I [.ref (g k0), .int x1] Rr := by
  refine fw_ofGv (cc := b_FL_shutLedger) (maxL := 2) (ws' := fw_ws) (by decide +kernel) hn (Nat.le_of_ble_eq_true rfl) rfl ?_
  intro p e s m args below meth c A Q hC hN hA he
  have hF := hC.1
  have hw : ∀ w ∈ fw_ws, w.before args s = true := fun w hw => hF.2.2.2.2 w (List.mem_cons_of_mem _ hw)
  unfold fn_FL_shutLedger at h
  change fw_G p l e r_FL_shutLedger s m args below meth c 0 0 Q 2 D aC A g n K I 0 [(0, .ref (g k0)), (1, .int x1)] []
  refine fx_aload_n (pc' := 1) hF d_FL_shutLedger_0 rfl 0 rfl rfl ?_
  refine fx_iconst (pc' := 2) hF (v := (2 : Int32)) d_FL_shutLedger_1 rfl rfl ?_
  obtain ⟨I1, eI1, h⟩ := fw_let_some h
  refine fx_puti (pc' := 5) hC hk0 (by decide) rfl iw_FL 7 (by decide) (by decide) rfl ty_FL tyok_FL nn_FL rfl eI1 (tyok_FL 7 (by decide)) rfl rfl (hw _ wq_1_200) rfl d_FL_shutLedger_2 rfl ?_
  refine fx_aload_n (pc' := 6) hF d_FL_shutLedger_5 rfl 0 rfl rfl ?_
  refine fx_iload_n (pc' := 7) hF d_FL_shutLedger_6 rfl 1 rfl rfl ?_
  obtain ⟨I2, eI2, h⟩ := fw_let_some h
  refine fx_puti (pc' := 10) hC hk0 (by decide) rfl iw_FL 9 (by decide) (by decide) rfl ty_FL tyok_FL nn_FL rfl eI2 (tyok_FL 9 (by decide)) rfl rfl (hw _ wq_1_202) rfl d_FL_shutLedger_7 rfl ?_
  refine fx_aload_n (pc' := 11) hF d_FL_shutLedger_10 rfl 0 rfl rfl ?_
  refine fx_dup (pc' := 12) hF d_FL_shutLedger_11 rfl rfl ?_
  refine fx_geti (pc' := 15) hC hk0 (by decide) rfl iw_FL 8 (by decide) (by decide) rfl (hw _ wq_1_201) rfl d_FL_shutLedger_12 rfl ?_
  refine fx_iconst (pc' := 16) hF (v := (1 : Int32)) d_FL_shutLedger_15 rfl rfl ?_
  refine fx_iadd (pc' := 17) hF d_FL_shutLedger_16 rfl ?_
  obtain ⟨I3, eI3, h⟩ := fw_let_some h
  refine fx_puti (pc' := 20) hC hk0 (by decide) rfl iw_FL 8 (by decide) (by decide) rfl ty_FL tyok_FL nn_FL rfl eI3 (tyok_FL 8 (by decide)) rfl rfl (hw _ wq_1_201) rfl d_FL_shutLedger_17 rfl ?_
  exact he I3 _ _ d_FL_shutLedger_20 h
set_option maxHeartbeats 4000000 in
set_option maxRecDepth 100000 in
theorem ct_FL_close (l : Launch) (D : va_G) (aC : Nat → ClassId) (g : Nat → Nat) (n : Nat) (K : Nat → Nat × Nat) (I : Nat → Nat → Int32) (k0 : Nat) (Rr : Int32 × (Nat → Nat → Int32)) (hn : ∀ k, (K k).1 < 99 → k < n) (hk0 : (K k0).1 = 5) (h : fn_FL_close K I k0 = some Rr) : fw_Mi l y_FL_close w_FL_close r_FL_close D aC g n K I [.ref (g k0)] Rr := by
  refine fw_ofGi (cc := b_FL_close) (maxL := 1) (ws' := fw_ws) (by decide +kernel) hn (Nat.le_of_ble_eq_true rfl) rfl ?_
  intro p e s m args below meth c A Q hC hN hA he
  have hF := hC.1
  have hw : ∀ w ∈ fw_ws, w.before args s = true := fun w hw => hF.2.2.2.2 w (List.mem_cons_of_mem _ hw)
  unfold fn_FL_close at h
  change fw_G p l e r_FL_close s m args below meth c 0 0 Q 1 D aC A g n K I 0 [(0, .ref (g k0))] []
  refine fx_aload_n (pc' := 1) hF d_FL_close_0 rfl 0 rfl rfl ?_
  obtain ⟨a1, na1, ea1, ka1, h⟩ := fw_ld_some h
  refine fx_getr (pc' := 4) hC hk0 (by decide) rfl iw_FL 5 (by decide) (by decide) rfl na1 ea1 (hw _ wq_1_198) rfl d_FL_close_1 rfl ?_
  refine fx_getiN (pc' := 7) hC ka1 (by decide) rfl iw_WR 2 (by decide) (by decide) rfl (va_Nw.use rfl (hN.1 _ wn_1_141)) rfl d_FL_close_4 rfl ?_
  refine fx_if_ne hF (tgt := 17) (pc' := 10) d_FL_close_7 rfl rfl (fun q2 => ?_) (fun q2 => ?_)
  · rw [if_neg q2] at h
    refine fx_iconst (pc' := 18) hF (v := (0 : Int32)) d_FL_close_17 rfl rfl ?_
    exact he I _ _ rfl _ d_FL_close_18 h
  · rw [if_pos q2] at h
    refine fx_aload_n (pc' := 11) hF d_FL_close_10 rfl 0 rfl rfl ?_
    refine fx_geti (pc' := 14) hC hk0 (by decide) rfl iw_FL 7 (by decide) (by decide) rfl (hw _ wq_1_200) rfl d_FL_close_11 rfl ?_
    refine fx_if_eq hF (tgt := 19) (pc' := 17) d_FL_close_14 rfl rfl (fun q3 => ?_) (fun q3 => ?_)
    · rw [if_pos q3] at h
      refine fx_aload_n (pc' := 20) hF d_FL_close_19 rfl 0 rfl rfl ?_
      refine fx_aload_n (pc' := 21) hF d_FL_close_20 rfl 0 rfl rfl ?_
      obtain ⟨a4, na4, ea4, ka4, h⟩ := fw_ld_some h
      refine fx_getr (pc' := 24) hC hk0 (by decide) rfl iw_FL 5 (by decide) (by decide) rfl na4 ea4 (hw _ wq_1_198) rfl d_FL_close_21 rfl ?_
      refine fx_getiN (pc' := 27) hC ka4 (by decide) rfl iw_WR 4 (by decide) (by decide) rfl (va_Nw.use rfl (hN.1 _ wn_1_145)) rfl d_FL_close_24 rfl ?_
      obtain ⟨I5, c6, h⟩ := fw_bv_some h
      refine fx_callVv (pc' := 30) (As := [.int (I a4 4)]) (st := []) hC hN hA hk0 (by decide) rfl (ct_FL_shutLedger l D aC g n K I k0 (I a4 4) I5 hn hk0 c6) (cwV 1 hF.2.2.2.2 (fw_gV wq_2_22 wq_2_24 wsel_FL_shutLedger wq_1_1 wq_2_25) rfl rfl rfl ⟨rfl, by decide +kernel, by decide +kernel, by decide +kernel⟩ ⟨Nat.le_of_ble_eq_true rfl, Nat.le_of_ble_eq_true rfl⟩) ⟨Nat.zero_le _, Nat.zero_le _⟩ rfl rfl (Nat.le_of_ble_eq_true rfl) d_FL_close_27 rfl ?_
      refine fx_aload_n (pc' := 31) hF d_FL_close_30 rfl 0 rfl rfl ?_
      obtain ⟨a7, na7, ea7, ka7, h⟩ := fw_ld_some h
      refine fx_getr (pc' := 34) hC hk0 (by decide) rfl iw_FL 5 (by decide) (by decide) rfl na7 ea7 (hw _ wq_1_198) rfl d_FL_close_31 rfl ?_
      refine fx_iconst (pc' := 35) hF (v := (2 : Int32)) d_FL_close_34 rfl rfl ?_
      obtain ⟨I8, eI8, h⟩ := fw_let_some h
      refine fx_putiN (pc' := 38) hC ka7 (by decide) rfl iw_WR 2 (by decide) (by decide) rfl ty_WR tyok_WR nn_WR rfl eI8 (tyok_WR 2 (by decide)) rfl rfl (va_Nw.use rfl (hN.1 _ wn_1_141)) rfl d_FL_close_35 rfl ?_
      refine fx_iconst (pc' := 39) hF (v := (1 : Int32)) d_FL_close_38 rfl rfl ?_
      exact he I8 _ _ rfl _ d_FL_close_39 h
    · rw [if_neg q3] at h
      refine fx_iconst (pc' := 18) hF (v := (0 : Int32)) d_FL_close_17 rfl rfl ?_
      exact he I _ _ rfl _ d_FL_close_18 h
set_option maxHeartbeats 4000000 in
set_option maxRecDepth 100000 in
theorem ct_FL_leave (l : Launch) (D : va_G) (aC : Nat → ClassId) (g : Nat → Nat) (n : Nat) (K : Nat → Nat × Nat) (I : Nat → Nat → Int32) (k0 : Nat) (Rr : Int32 × (Nat → Nat → Int32)) (hn : ∀ k, (K k).1 < 99 → k < n) (hk0 : (K k0).1 = 5) (h : fn_FL_leave K I k0 = some Rr) : fw_Mi l y_FL_leave w_FL_leave r_FL_leave D aC g n K I [.ref (g k0)] Rr := by
  refine fw_ofGi (cc := b_FL_leave) (maxL := 1) (ws' := fw_ws) (by decide +kernel) hn (Nat.le_of_ble_eq_true rfl) rfl ?_
  intro p e s m args below meth c A Q hC hN hA he
  have hF := hC.1
  have hw : ∀ w ∈ fw_ws, w.before args s = true := fun w hw => hF.2.2.2.2 w (List.mem_cons_of_mem _ hw)
  unfold fn_FL_leave at h
  change fw_G p l e r_FL_leave s m args below meth c 0 0 Q 1 D aC A g n K I 0 [(0, .ref (g k0))] []
  refine fx_aload_n (pc' := 1) hF d_FL_leave_0 rfl 0 rfl rfl ?_
  obtain ⟨a1, na1, ea1, ka1, h⟩ := fw_ld_some h
  refine fx_getr (pc' := 4) hC hk0 (by decide) rfl iw_FL 5 (by decide) (by decide) rfl na1 ea1 (hw _ wq_1_198) rfl d_FL_leave_1 rfl ?_
  refine fx_getiN (pc' := 7) hC ka1 (by decide) rfl iw_WR 2 (by decide) (by decide) rfl (va_Nw.use rfl (hN.1 _ wn_1_141)) rfl d_FL_leave_4 rfl ?_
  refine fx_iconst (pc' := 8) hF (v := (3 : Int32)) d_FL_leave_7 rfl rfl ?_
  refine fx_icmp_ne hF (tgt := 13) (pc' := 11) d_FL_leave_8 rfl rfl (fun q2 => ?_) (fun q2 => ?_)
  · rw [if_neg q2] at h
    refine fx_aload_n (pc' := 14) hF d_FL_leave_13 rfl 0 rfl rfl ?_
    obtain ⟨a3, na3, ea3, ka3, h⟩ := fw_ld_some h
    refine fx_getr (pc' := 17) hC hk0 (by decide) rfl iw_FL 5 (by decide) (by decide) rfl na3 ea3 (hw _ wq_1_198) rfl d_FL_leave_14 rfl ?_
    refine fx_iconst (pc' := 18) hF (v := (3 : Int32)) d_FL_leave_17 rfl rfl ?_
    obtain ⟨I4, eI4, h⟩ := fw_let_some h
    refine fx_putiN (pc' := 21) hC ka3 (by decide) rfl iw_WR 2 (by decide) (by decide) rfl ty_WR tyok_WR nn_WR rfl eI4 (tyok_WR 2 (by decide)) rfl rfl (va_Nw.use rfl (hN.1 _ wn_1_141)) rfl d_FL_leave_18 rfl ?_
    refine fx_iconst (pc' := 22) hF (v := (1 : Int32)) d_FL_leave_21 rfl rfl ?_
    exact he I4 _ _ rfl _ d_FL_leave_22 h
  · rw [if_pos q2] at h
    refine fx_iconst (pc' := 12) hF (v := (0 : Int32)) d_FL_leave_11 rfl rfl ?_
    exact he I _ _ rfl _ d_FL_leave_12 h
set_option maxHeartbeats 4000000 in
set_option maxRecDepth 100000 in
theorem ct_FL_writer (l : Launch) (D : va_G) (aC : Nat → ClassId) (g : Nat → Nat) (n : Nat) (K : Nat → Nat × Nat) (I : Nat → Nat → Int32) (k0 : Nat) (x1 : Int32) (Rr : Int32 × (Nat → Nat → Int32)) (hn : ∀ k, (K k).1 < 99 → k < n) (hk0 : (K k0).1 = 5) (h : fn_FL_writer K I k0 x1 = some Rr) : fw_Mi l y_FL_writer w_FL_writer r_FL_writer D aC g n K I [.ref (g k0), .int x1] Rr := by
  refine fw_ofGi (cc := b_FL_writer) (maxL := 2) (ws' := fw_ws) (by decide +kernel) hn (Nat.le_of_ble_eq_true rfl) rfl ?_
  intro p e s m args below meth c A Q hC hN hA he
  have hF := hC.1
  have hw : ∀ w ∈ fw_ws, w.before args s = true := fun w hw => hF.2.2.2.2 w (List.mem_cons_of_mem _ hw)
  unfold fn_FL_writer at h
  change fw_G p l e r_FL_writer s m args below meth c 0 0 Q 2 D aC A g n K I 0 [(0, .ref (g k0)), (1, .int x1)] []
  refine fx_iload_n (pc' := 1) hF d_FL_writer_0 rfl 1 rfl rfl ?_
  by_cases q1 : x1 = (0 : Int32)
  · rw [if_pos q1] at h
    refine fx_swIn hF (tgt := 28) d_FL_writer_1 (by rw [q1]; decide) (by rw [q1]; decide) (by rw [q1]; rfl) rfl ?_
    refine fx_aload_n (pc' := 29) hF d_FL_writer_28 rfl 0 rfl rfl ?_
    obtain ⟨a2, na2, ea2, ka2, h⟩ := fw_ld_some h
    refine fx_getr (pc' := 32) hC hk0 (by decide) rfl iw_FL 5 (by decide) (by decide) rfl na2 ea2 (hw _ wq_1_198) rfl d_FL_writer_29 rfl ?_
    refine fx_getiN (pc' := 35) hC ka2 (by decide) rfl iw_WR 2 (by decide) (by decide) rfl (va_Nw.use rfl (hN.1 _ wn_1_141)) rfl d_FL_writer_32 rfl ?_
    exact he I _ _ rfl _ d_FL_writer_35 h
  · rw [if_neg q1] at h
    by_cases q3 : x1 = (1 : Int32)
    · rw [if_pos q3] at h
      refine fx_swIn hF (tgt := 36) d_FL_writer_1 (by rw [q3]; decide) (by rw [q3]; decide) (by rw [q3]; rfl) rfl ?_
      refine fx_aload_n (pc' := 37) hF d_FL_writer_36 rfl 0 rfl rfl ?_
      obtain ⟨a4, na4, ea4, ka4, h⟩ := fw_ld_some h
      refine fx_getr (pc' := 40) hC hk0 (by decide) rfl iw_FL 5 (by decide) (by decide) rfl na4 ea4 (hw _ wq_1_198) rfl d_FL_writer_37 rfl ?_
      refine fx_getiN (pc' := 43) hC ka4 (by decide) rfl iw_WR 3 (by decide) (by decide) rfl (va_Nw.use rfl (hN.1 _ wn_1_143)) rfl d_FL_writer_40 rfl ?_
      exact he I _ _ rfl _ d_FL_writer_43 h
    · rw [if_neg q3] at h
      by_cases q5 : x1 = (2 : Int32)
      · rw [if_pos q5] at h
        refine fx_swIn hF (tgt := 44) d_FL_writer_1 (by rw [q5]; decide) (by rw [q5]; decide) (by rw [q5]; rfl) rfl ?_
        refine fx_aload_n (pc' := 45) hF d_FL_writer_44 rfl 0 rfl rfl ?_
        obtain ⟨a6, na6, ea6, ka6, h⟩ := fw_ld_some h
        refine fx_getr (pc' := 48) hC hk0 (by decide) rfl iw_FL 5 (by decide) (by decide) rfl na6 ea6 (hw _ wq_1_198) rfl d_FL_writer_45 rfl ?_
        refine fx_getiN (pc' := 51) hC ka6 (by decide) rfl iw_WR 4 (by decide) (by decide) rfl (va_Nw.use rfl (hN.1 _ wn_1_145)) rfl d_FL_writer_48 rfl ?_
        exact he I _ _ rfl _ d_FL_writer_51 h
      · rw [if_neg q5] at h
        refine fx_swOut hF (tgt := 52) d_FL_writer_1 (by have z0 := lv_neT q1 (a := 0) rfl; have z1 := lv_neT q3 (a := 1) rfl; have z2 := lv_neT q5 (a := 2) rfl; omega) rfl ?_
        refine fx_iconst (pc' := 53) hF (v := (-1 : Int32)) d_FL_writer_52 rfl rfl ?_
        exact he I _ _ rfl _ d_FL_writer_53 h
set_option maxHeartbeats 4000000 in
set_option maxRecDepth 100000 in
theorem ct_FL_answers (l : Launch) (D : va_G) (aC : Nat → ClassId) (g : Nat → Nat) (n : Nat) (K : Nat → Nat × Nat) (I : Nat → Nat → Int32) (k0 : Nat) (x1 : Int32) (Rr : Int32 × (Nat → Nat → Int32)) (hn : ∀ k, (K k).1 < 99 → k < n) (hk0 : (K k0).1 = 5) (h : fn_FL_answers K I k0 x1 = some Rr) : fw_Mi l y_FL_answers w_FL_answers r_FL_answers D aC g n K I [.ref (g k0), .int x1] Rr := by
  refine fw_ofGi (cc := b_FL_answers) (maxL := 2) (ws' := fw_ws) (by decide +kernel) hn (Nat.le_of_ble_eq_true rfl) rfl ?_
  intro p e s m args below meth c A Q hC hN hA he
  have hF := hC.1
  have hw : ∀ w ∈ fw_ws, w.before args s = true := fun w hw => hF.2.2.2.2 w (List.mem_cons_of_mem _ hw)
  unfold fn_FL_answers at h
  change fw_G p l e r_FL_answers s m args below meth c 0 0 Q 2 D aC A g n K I 0 [(0, .ref (g k0)), (1, .int x1)] []
  refine fx_aload_n (pc' := 1) hF d_FL_answers_0 rfl 0 rfl rfl ?_
  obtain ⟨a1, na1, ea1, ka1, h⟩ := fw_ld_some h
  refine fx_getr (pc' := 4) hC hk0 (by decide) rfl iw_FL 5 (by decide) (by decide) rfl na1 ea1 (hw _ wq_1_198) rfl d_FL_answers_1 rfl ?_
  refine fx_iload_n (pc' := 5) hF d_FL_answers_4 rfl 1 rfl rfl ?_
  obtain ⟨r4, I2, c3, h⟩ := fw_bd_some h
  refine fx_callVNi (pc' := 8) (As := [.int x1]) (st := []) hC hN hA ka1 (by decide) rfl (ct_WR_knows l D aC g n K I a1 x1 (r4, I2) hn ka1 c3) ⟨va_cnB 1 hF.2.2.2.2 (fw_gN wq_1_231) rfl rfl rfl (hN.1 _ wn_1_228) (hw _ wq_1_6) ⟨by decide +kernel, by decide +kernel, by decide +kernel⟩ ⟨Nat.le_of_ble_eq_true rfl, Nat.le_of_ble_eq_true rfl⟩, hw _ wq_1_230, hw _ wsel_WR_knows⟩ ⟨Nat.zero_le _, Nat.zero_le _⟩ rfl rfl (Nat.le_of_ble_eq_true rfl) d_FL_answers_5 rfl ?_
  refine fx_if_eq hF (tgt := 22) (pc' := 11) d_FL_answers_8 rfl rfl (fun q5 => ?_) (fun q5 => ?_)
  · rw [if_pos q5] at h
    refine fx_iconst (pc' := 23) hF (v := (-1 : Int32)) d_FL_answers_22 rfl rfl ?_
    exact he I2 _ _ rfl _ d_FL_answers_23 h
  · rw [if_neg q5] at h
    refine fx_aload_n (pc' := 12) hF d_FL_answers_11 rfl 0 rfl rfl ?_
    obtain ⟨a6, na6, ea6, ka6, h⟩ := fw_ld_some h
    refine fx_getr (pc' := 15) hC hk0 (by decide) rfl iw_FL 5 (by decide) (by decide) rfl na6 ea6 (hw _ wq_1_198) rfl d_FL_answers_12 rfl ?_
    refine fx_iload_n (pc' := 16) hF d_FL_answers_15 rfl 1 rfl rfl ?_
    obtain ⟨r9, I7, c8, h⟩ := fw_bd_some h
    refine fx_callVNi (pc' := 19) (As := [.int x1]) (st := []) hC hN hA ka6 (by decide) rfl (ct_WR_countAnswers l D aC g n K I2 a6 x1 (r9, I7) hn ka6 c8) ⟨va_cnB 1 hF.2.2.2.2 (fw_gN wq_1_235) rfl rfl rfl (hN.1 _ wn_1_232) (hw _ wq_1_6) ⟨by decide +kernel, by decide +kernel, by decide +kernel⟩ ⟨Nat.le_of_ble_eq_true rfl, Nat.le_of_ble_eq_true rfl⟩, hw _ wq_1_234, hw _ wsel_WR_countAnswers⟩ ⟨Nat.zero_le _, Nat.zero_le _⟩ rfl rfl (Nat.le_of_ble_eq_true rfl) d_FL_answers_16 rfl ?_
    refine fx_goto hF (tgt := 23) d_FL_answers_19 rfl ?_
    exact he I7 _ _ rfl _ d_FL_answers_23 h
set_option maxHeartbeats 4000000 in
set_option maxRecDepth 100000 in
theorem ct_FL_isRecoverer (l : Launch) (D : va_G) (aC : Nat → ClassId) (g : Nat → Nat) (n : Nat) (K : Nat → Nat × Nat) (I : Nat → Nat → Int32) (x0 : Int32) (Rr : Int32 × (Nat → Nat → Int32)) (hn : ∀ k, (K k).1 < 99 → k < n) (h : fn_FL_isRecoverer K I x0 = some Rr) : fw_Mi l y_FL_isRecoverer w_FL_isRecoverer r_FL_isRecoverer D aC g n K I [.int x0] Rr := by
  refine fw_ofGi (cc := b_FL_isRecoverer) (maxL := 1) (ws' := fw_ws) (by decide +kernel) hn (Nat.le_of_ble_eq_true rfl) rfl ?_
  intro p e s m args below meth c A Q hC hN hA he
  have hF := hC.1
  have hw : ∀ w ∈ fw_ws, w.before args s = true := fun w hw => hF.2.2.2.2 w (List.mem_cons_of_mem _ hw)
  unfold fn_FL_isRecoverer at h
  change fw_G p l e r_FL_isRecoverer s m args below meth c 0 0 Q 1 D aC A g n K I 0 [(0, .int x0)] []
  refine fx_iload_n (pc' := 1) hF d_FL_isRecoverer_0 rfl 0 rfl rfl ?_
  refine fx_iconst (pc' := 2) hF (v := (1 : Int32)) d_FL_isRecoverer_1 rfl rfl ?_
  refine fx_icmp_lt hF (tgt := 14) (pc' := 5) d_FL_isRecoverer_2 rfl rfl (fun q1 => ?_) (fun q1 => ?_)
  · rw [if_pos q1] at h
    refine fx_iconst (pc' := 15) hF (v := (0 : Int32)) d_FL_isRecoverer_14 rfl rfl ?_
    exact he I _ _ rfl _ d_FL_isRecoverer_15 h
  · rw [if_neg q1] at h
    refine fx_iload_n (pc' := 6) hF d_FL_isRecoverer_5 rfl 0 rfl rfl ?_
    refine fx_iconst (pc' := 7) hF (v := (2 : Int32)) d_FL_isRecoverer_6 rfl rfl ?_
    refine fx_icmp_gt hF (tgt := 14) (pc' := 10) d_FL_isRecoverer_7 rfl rfl (fun q2 => ?_) (fun q2 => ?_)
    · rw [if_pos q2] at h
      refine fx_iconst (pc' := 15) hF (v := (0 : Int32)) d_FL_isRecoverer_14 rfl rfl ?_
      exact he I _ _ rfl _ d_FL_isRecoverer_15 h
    · rw [if_neg q2] at h
      refine fx_iconst (pc' := 11) hF (v := (1 : Int32)) d_FL_isRecoverer_10 rfl rfl ?_
      refine fx_goto hF (tgt := 15) d_FL_isRecoverer_11 rfl ?_
      exact he I _ _ rfl _ d_FL_isRecoverer_15 h
set_option maxHeartbeats 4000000 in
set_option maxRecDepth 100000 in
theorem ct_FL_sendFences (l : Launch) (D : va_G) (aC : Nat → ClassId) (g : Nat → Nat) (n : Nat) (K : Nat → Nat × Nat) (I : Nat → Nat → Int32) (k0 : Nat) (k1 : Nat) (Rr : Int32 × (Nat → Nat → Int32)) (hn : ∀ k, (K k).1 < 99 → k < n) (hk0 : (K k0).1 = 5) (hk1 : (K k1).1 = 2) (h : fn_FL_sendFences K I k0 k1 = some Rr) : fw_Mi l y_FL_sendFences w_FL_sendFences r_FL_sendFences D aC g n K I [.ref (g k0), .ref (g k1)] Rr := by
  refine fw_ofGi (cc := b_FL_sendFences) (maxL := 4) (ws' := fw_ws) (by decide +kernel) hn (Nat.le_of_ble_eq_true rfl) rfl ?_
  intro p e s m args below meth c A Q hC hN hA he
  have hF := hC.1
  have hw : ∀ w ∈ fw_ws, w.before args s = true := fun w hw => hF.2.2.2.2 w (List.mem_cons_of_mem _ hw)
  unfold fn_FL_sendFences at h
  have B4 : ∀ (f : Nat) (I : Nat → Nat → Int32) (k1 : Nat) (x2 : Int32) (x3 : Int32) (hk1 : (K k1).1 = 2), fn_FL_sendFences_4 K f I k0 k1 x2 x3 = some Rr → fw_G p l e r_FL_sendFences s m args below meth c 0 0 Q 4 D aC A g n K I 4 [(0, .ref (g k0)), (1, .ref (g k1)), (2, .int x2), (3, .int x3)] [] := by
    intro f
    induction f with
    | zero =>
      intro I k1 x2 x3 hk1 h
      rw [fn_FL_sendFences_4] at h
      cases h
    | succ f ih =>
      intro I k1 x2 x3 hk1 h
      rw [fn_FL_sendFences_4] at h
      refine fx_iload_n (pc' := 5) hF d_FL_sendFences_4 rfl 3 rfl rfl ?_
      refine fx_aload_n (pc' := 6) hF d_FL_sendFences_5 rfl 0 rfl rfl ?_
      refine fx_geti (pc' := 9) hC hk0 (by decide) rfl iw_FL 0 (by decide) (by decide) rfl (hw _ wq_1_193) rfl d_FL_sendFences_6 rfl ?_
      refine fx_icmp_ge hF (tgt := 52) (pc' := 12) d_FL_sendFences_9 rfl rfl (fun q1 => ?_) (fun q1 => ?_)
      · rw [if_pos q1] at h
        refine fx_iload_n (pc' := 53) hF d_FL_sendFences_52 rfl 2 rfl rfl ?_
        exact he I _ _ rfl _ d_FL_sendFences_53 h
      · rw [if_neg q1] at h
        refine fx_aload_n (pc' := 13) hF d_FL_sendFences_12 rfl 1 rfl rfl ?_
        refine fx_getiN (pc' := 16) hC hk1 (by decide) rfl iw_RC 4 (by decide) (by decide) rfl (va_Nw.use rfl (hN.1 _ wn_1_173)) rfl d_FL_sendFences_13 rfl ?_
        refine fx_iconst (pc' := 17) hF (v := (1 : Int32)) d_FL_sendFences_16 rfl rfl ?_
        refine fx_iload_n (pc' := 18) hF d_FL_sendFences_17 rfl 3 rfl rfl ?_
        refine fx_ishl (pc' := 19) hF d_FL_sendFences_18 rfl ?_
        refine fx_iand (pc' := 20) hF d_FL_sendFences_19 rfl ?_
        refine fx_if_ne hF (tgt := 46) (pc' := 23) d_FL_sendFences_20 rfl rfl (fun q2 => ?_) (fun q2 => ?_)
        · rw [if_neg q2] at h
          refine fx_iinc (pc' := 49) hF (v := x3 + 1) (lv' := [(3, .int (x3 + 1)), (0, .ref (g k0)), (1, .ref (g k1)), (2, .int x2)]) d_FL_sendFences_46 3 rfl rfl (by decide) rfl rfl ?_
          refine fx_goto hF (tgt := 4) d_FL_sendFences_49 rfl ?_
          refine fx_lv [1, 2, 3, 0] rfl ?_
          exact ih I k1 x2 (x3 + 1) hk1 h
        · rw [if_pos q2] at h
          refine fx_aload_n (pc' := 24) hF d_FL_sendFences_23 rfl 0 rfl rfl ?_
          obtain ⟨a3, na3, ea3, ka3, h⟩ := fw_ld_some h
          refine fx_getr (pc' := 27) hC hk0 (by decide) rfl iw_FL 4 (by decide) (by decide) rfl na3 ea3 (hw _ wq_1_197) rfl d_FL_sendFences_24 rfl ?_
          refine fx_iconst (pc' := 28) hF (v := (1 : Int32)) d_FL_sendFences_27 rfl rfl ?_
          refine fx_aload_n (pc' := 29) hF d_FL_sendFences_28 rfl 1 rfl rfl ?_
          refine fx_getiN (pc' := 32) hC hk1 (by decide) rfl iw_RC 0 (by decide) (by decide) rfl (va_Nw.use rfl (hN.1 _ wn_1_165)) rfl d_FL_sendFences_29 rfl ?_
          refine fx_iload_n (pc' := 33) hF d_FL_sendFences_32 rfl 3 rfl rfl ?_
          refine fx_iconst (pc' := 34) hF (v := (0 : Int32)) d_FL_sendFences_33 rfl rfl ?_
          refine fx_iconst (pc' := 35) hF (v := (0 : Int32)) d_FL_sendFences_34 rfl rfl ?_
          refine fx_aload_n (pc' := 36) hF d_FL_sendFences_35 rfl 1 rfl rfl ?_
          refine fx_getiN (pc' := 39) hC hk1 (by decide) rfl iw_RC 2 (by decide) (by decide) rfl (va_Nw.use rfl (hN.1 _ wn_1_169)) rfl d_FL_sendFences_36 rfl ?_
          refine fx_iconst (pc' := 40) hF (v := (0 : Int32)) d_FL_sendFences_39 rfl rfl ?_
          obtain ⟨I4, c5, h⟩ := fw_bv_some h
          refine fx_callVNv (pc' := 43) (As := [.int (1 : Int32), .int (I k1 0), .int x3, .int (0 : Int32), .int (0 : Int32), .int (I k1 2), .int (0 : Int32)]) (st := []) hC hN hA ka3 (by decide) rfl (ct_CH_send l D aC g n K I a3 (1 : Int32) (I k1 0) x3 (0 : Int32) (0 : Int32) (I k1 2) (0 : Int32) I4 hn ka3 c5) ⟨va_cnB 7 hF.2.2.2.2 (fw_gN wq_2_17) rfl rfl rfl (hN.1 _ wn_2_14) (hw _ wq_1_4) ⟨by decide +kernel, by decide +kernel, by decide +kernel⟩ ⟨Nat.le_of_ble_eq_true rfl, Nat.le_of_ble_eq_true rfl⟩, hw _ wq_2_16, hw _ wsel_CH_send⟩ ⟨Nat.zero_le _, Nat.zero_le _⟩ rfl rfl (Nat.le_of_ble_eq_true rfl) d_FL_sendFences_40 rfl ?_
          refine fx_iinc (pc' := 46) hF (v := x2 + 1) (lv' := [(2, .int (x2 + 1)), (0, .ref (g k0)), (1, .ref (g k1)), (3, .int x3)]) d_FL_sendFences_43 2 rfl rfl (by decide) rfl rfl ?_
          refine fx_iinc (pc' := 49) hF (v := x3 + 1) (lv' := [(3, .int (x3 + 1)), (2, .int (x2 + 1)), (0, .ref (g k0)), (1, .ref (g k1))]) d_FL_sendFences_46 3 rfl rfl (by decide) rfl rfl ?_
          refine fx_goto hF (tgt := 4) d_FL_sendFences_49 rfl ?_
          refine fx_lv [2, 3, 1, 0] rfl ?_
          exact ih I4 k1 (x2 + 1) (x3 + 1) hk1 h
  change fw_G p l e r_FL_sendFences s m args below meth c 0 0 Q 4 D aC A g n K I 0 [(0, .ref (g k0)), (1, .ref (g k1))] []
  refine fx_iconst (pc' := 1) hF (v := (0 : Int32)) d_FL_sendFences_0 rfl rfl ?_
  refine fx_istore_n (pc' := 2) hF (lv' := [(2, .int (0 : Int32)), (0, .ref (g k0)), (1, .ref (g k1))]) d_FL_sendFences_1 rfl (by decide) rfl rfl ?_
  refine fx_iconst (pc' := 3) hF (v := (0 : Int32)) d_FL_sendFences_2 rfl rfl ?_
  refine fx_istore_n (pc' := 4) hF (lv' := [(3, .int (0 : Int32)), (2, .int (0 : Int32)), (0, .ref (g k0)), (1, .ref (g k1))]) d_FL_sendFences_3 rfl (by decide) rfl rfl ?_
  refine fx_lv [2, 3, 1, 0] rfl ?_
  exact B4 200 I k1 (0 : Int32) (0 : Int32) hk1 h
set_option maxHeartbeats 4000000 in
set_option maxRecDepth 100000 in
theorem ct_FL_sendStep (l : Launch) (D : va_G) (aC : Nat → ClassId) (g : Nat → Nat) (n : Nat) (K : Nat → Nat × Nat) (I : Nat → Nat → Int32) (k0 : Nat) (k1 : Nat) (Rr : Int32 × (Nat → Nat → Int32)) (hn : ∀ k, (K k).1 < 99 → k < n) (hk0 : (K k0).1 = 5) (hk1 : (K k1).1 = 2) (h : fn_FL_sendStep K I k0 k1 = some Rr) : fw_Mi l y_FL_sendStep w_FL_sendStep r_FL_sendStep D aC g n K I [.ref (g k0), .ref (g k1)] Rr := by
  refine fw_ofGi (cc := b_FL_sendStep) (maxL := 2) (ws' := fw_ws) (by decide +kernel) hn (Nat.le_of_ble_eq_true rfl) rfl ?_
  intro p e s m args below meth c A Q hC hN hA he
  have hF := hC.1
  have hw : ∀ w ∈ fw_ws, w.before args s = true := fun w hw => hF.2.2.2.2 w (List.mem_cons_of_mem _ hw)
  unfold fn_FL_sendStep at h
  change fw_G p l e r_FL_sendStep s m args below meth c 0 0 Q 2 D aC A g n K I 0 [(0, .ref (g k0)), (1, .ref (g k1))] []
  refine fx_aload_n (pc' := 1) hF d_FL_sendStep_0 rfl 1 rfl rfl ?_
  refine fx_getiN (pc' := 4) hC hk1 (by decide) rfl iw_RC 1 (by decide) (by decide) rfl (va_Nw.use rfl (hN.1 _ wn_1_167)) rfl d_FL_sendStep_1 rfl ?_
  by_cases q1 : (I k1 1) = (1 : Int32)
  · rw [if_pos q1] at h
    refine fx_lookup hF (tgt := 32) d_FL_sendStep_4 rfl (by rw [q1]) rfl ?_
    refine fx_aload_n (pc' := 33) hF d_FL_sendStep_32 rfl 0 rfl rfl ?_
    refine fx_aload_n (pc' := 34) hF d_FL_sendStep_33 rfl 1 rfl rfl ?_
    obtain ⟨r4, I2, c3, h⟩ := fw_bd_some h
    refine fx_callVi (pc' := 37) (As := [.ref (g k1)]) (st := []) hC hN hA hk0 (by decide) rfl (ct_FL_sendFences l D aC g n K I k0 k1 (r4, I2) hn hk0 hk1 c3) (cwV 1 hF.2.2.2.2 (fw_gV wq_2_53 wq_2_55 wsel_FL_sendFences wq_1_1 wq_2_56) rfl rfl rfl ⟨rfl, by decide +kernel, by decide +kernel, by decide +kernel⟩ ⟨Nat.le_of_ble_eq_true rfl, Nat.le_of_ble_eq_true rfl⟩) ⟨Nat.zero_le _, Nat.zero_le _⟩ rfl rfl (Nat.le_of_ble_eq_true rfl) d_FL_sendStep_34 rfl ?_
    exact he I2 _ _ rfl _ d_FL_sendStep_37 h
  · rw [if_neg q1] at h
    by_cases q5 : (I k1 1) = (2 : Int32)
    · rw [if_pos q5] at h
      refine fx_lookup hF (tgt := 38) d_FL_sendStep_4 rfl (by rw [q5]) rfl ?_
      refine fx_aload_n (pc' := 39) hF d_FL_sendStep_38 rfl 0 rfl rfl ?_
      refine fx_iconst (pc' := 40) hF (v := (2 : Int32)) d_FL_sendStep_39 rfl rfl ?_
      refine fx_aload_n (pc' := 41) hF d_FL_sendStep_40 rfl 1 rfl rfl ?_
      refine fx_getiN (pc' := 44) hC hk1 (by decide) rfl iw_RC 0 (by decide) (by decide) rfl (va_Nw.use rfl (hN.1 _ wn_1_165)) rfl d_FL_sendStep_41 rfl ?_
      refine fx_aload_n (pc' := 45) hF d_FL_sendStep_44 rfl 1 rfl rfl ?_
      refine fx_getiN (pc' := 48) hC hk1 (by decide) rfl iw_RC 3 (by decide) (by decide) rfl (va_Nw.use rfl (hN.1 _ wn_1_171)) rfl d_FL_sendStep_45 rfl ?_
      refine fx_iconst (pc' := 49) hF (v := (0 : Int32)) d_FL_sendStep_48 rfl rfl ?_
      refine fx_aload_n (pc' := 50) hF d_FL_sendStep_49 rfl 1 rfl rfl ?_
      refine fx_getiN (pc' := 53) hC hk1 (by decide) rfl iw_RC 2 (by decide) (by decide) rfl (va_Nw.use rfl (hN.1 _ wn_1_169)) rfl d_FL_sendStep_50 rfl ?_
      refine fx_iconst (pc' := 54) hF (v := (0 : Int32)) d_FL_sendStep_53 rfl rfl ?_
      refine fx_aload_n (pc' := 55) hF d_FL_sendStep_54 rfl 1 rfl rfl ?_
      refine fx_getiN (pc' := 58) hC hk1 (by decide) rfl iw_RC 4 (by decide) (by decide) rfl (va_Nw.use rfl (hN.1 _ wn_1_173)) rfl d_FL_sendStep_55 rfl ?_
      obtain ⟨r8, I6, c7, h⟩ := fw_bd_some h
      refine fx_callVi (pc' := 61) (As := [.int (2 : Int32), .int (I k1 0), .int (I k1 3), .int (0 : Int32), .int (I k1 2), .int (0 : Int32), .int (I k1 4)]) (st := []) hC hN hA hk0 (by decide) rfl (ct_FL_sendToSet l D aC g n K I k0 (2 : Int32) (I k1 0) (I k1 3) (0 : Int32) (I k1 2) (0 : Int32) (I k1 4) (r8, I6) hn hk0 c7) (cwV 7 hF.2.2.2.2 (fw_gV wq_2_6 wq_2_8 wsel_FL_sendToSet wq_1_1 wq_2_9) rfl rfl rfl ⟨rfl, by decide +kernel, by decide +kernel, by decide +kernel⟩ ⟨Nat.le_of_ble_eq_true rfl, Nat.le_of_ble_eq_true rfl⟩) ⟨Nat.zero_le _, Nat.zero_le _⟩ rfl rfl (Nat.le_of_ble_eq_true rfl) d_FL_sendStep_58 rfl ?_
      exact he I6 _ _ rfl _ d_FL_sendStep_61 h
    · rw [if_neg q5] at h
      refine fx_lookup hF (tgt := 62) d_FL_sendStep_4 rfl (by show Op.lookupswitch.offset [(1, 28), (2, 34)] _ _ = _; rw [lv_osw (a := 1) q1 rfl, lv_osw (a := 2) q5 rfl]) rfl ?_
      refine fx_aload_n (pc' := 63) hF d_FL_sendStep_62 rfl 0 rfl rfl ?_
      refine fx_iconst (pc' := 64) hF (v := (0 : Int32)) d_FL_sendStep_63 rfl rfl ?_
      refine fx_aload_n (pc' := 65) hF d_FL_sendStep_64 rfl 1 rfl rfl ?_
      refine fx_getiN (pc' := 68) hC hk1 (by decide) rfl iw_RC 0 (by decide) (by decide) rfl (va_Nw.use rfl (hN.1 _ wn_1_165)) rfl d_FL_sendStep_65 rfl ?_
      refine fx_aload_n (pc' := 69) hF d_FL_sendStep_68 rfl 1 rfl rfl ?_
      refine fx_getiN (pc' := 72) hC hk1 (by decide) rfl iw_RC 3 (by decide) (by decide) rfl (va_Nw.use rfl (hN.1 _ wn_1_171)) rfl d_FL_sendStep_69 rfl ?_
      refine fx_aload_n (pc' := 73) hF d_FL_sendStep_72 rfl 1 rfl rfl ?_
      refine fx_getiN (pc' := 76) hC hk1 (by decide) rfl iw_RC 6 (by decide) (by decide) rfl (va_Nw.use rfl (hN.1 _ wn_1_177)) rfl d_FL_sendStep_73 rfl ?_
      refine fx_aload_n (pc' := 77) hF d_FL_sendStep_76 rfl 1 rfl rfl ?_
      refine fx_getiN (pc' := 80) hC hk1 (by decide) rfl iw_RC 2 (by decide) (by decide) rfl (va_Nw.use rfl (hN.1 _ wn_1_169)) rfl d_FL_sendStep_77 rfl ?_
      refine fx_aload_n (pc' := 81) hF d_FL_sendStep_80 rfl 1 rfl rfl ?_
      refine fx_getiN (pc' := 84) hC hk1 (by decide) rfl iw_RC 3 (by decide) (by decide) rfl (va_Nw.use rfl (hN.1 _ wn_1_171)) rfl d_FL_sendStep_81 rfl ?_
      refine fx_iconst (pc' := 85) hF (v := (1 : Int32)) d_FL_sendStep_84 rfl rfl ?_
      refine fx_isub (pc' := 86) hF d_FL_sendStep_85 rfl ?_
      refine fx_aload_n (pc' := 87) hF d_FL_sendStep_86 rfl 1 rfl rfl ?_
      refine fx_getiN (pc' := 90) hC hk1 (by decide) rfl iw_RC 4 (by decide) (by decide) rfl (va_Nw.use rfl (hN.1 _ wn_1_173)) rfl d_FL_sendStep_87 rfl ?_
      obtain ⟨r11, I9, c10, h⟩ := fw_bd_some h
      refine fx_callVi (pc' := 93) (As := [.int (0 : Int32), .int (I k1 0), .int (I k1 3), .int (I k1 6), .int (I k1 2), .int ((I k1 3) - (1 : Int32)), .int (I k1 4)]) (st := []) hC hN hA hk0 (by decide) rfl (ct_FL_sendToSet l D aC g n K I k0 (0 : Int32) (I k1 0) (I k1 3) (I k1 6) (I k1 2) ((I k1 3) - (1 : Int32)) (I k1 4) (r11, I9) hn hk0 c10) (cwV 7 hF.2.2.2.2 (fw_gV wq_2_6 wq_2_8 wsel_FL_sendToSet wq_1_1 wq_2_9) rfl rfl rfl ⟨rfl, by decide +kernel, by decide +kernel, by decide +kernel⟩ ⟨Nat.le_of_ble_eq_true rfl, Nat.le_of_ble_eq_true rfl⟩) ⟨Nat.zero_le _, Nat.zero_le _⟩ rfl rfl (Nat.le_of_ble_eq_true rfl) d_FL_sendStep_90 rfl ?_
      exact he I9 _ _ rfl _ d_FL_sendStep_93 h
set_option maxHeartbeats 4000000 in
set_option maxRecDepth 100000 in
theorem ct_FL_recover (l : Launch) (D : va_G) (aC : Nat → ClassId) (g : Nat → Nat) (n : Nat) (K : Nat → Nat × Nat) (I : Nat → Nat → Int32) (k0 : Nat) (x1 : Int32) (Rr : Int32 × (Nat → Nat → Int32)) (hn : ∀ k, (K k).1 < 99 → k < n) (hk0 : (K k0).1 = 5) (h : fn_FL_recover K I k0 x1 = some Rr) : fw_Mi l y_FL_recover w_FL_recover r_FL_recover D aC g n K I [.ref (g k0), .int x1] Rr := by
  refine fw_ofGi (cc := b_FL_recover) (maxL := 3) (ws' := fw_ws) (by decide +kernel) hn (Nat.le_of_ble_eq_true rfl) rfl ?_
  intro p e s m args below meth c A Q hC hN hA he
  have hF := hC.1
  have hw : ∀ w ∈ fw_ws, w.before args s = true := fun w hw => hF.2.2.2.2 w (List.mem_cons_of_mem _ hw)
  unfold fn_FL_recover at h
  change fw_G p l e r_FL_recover s m args below meth c 0 0 Q 3 D aC A g n K I 0 [(0, .ref (g k0)), (1, .int x1)] []
  refine fx_iload_n (pc' := 1) hF d_FL_recover_0 rfl 1 rfl rfl ?_
  obtain ⟨r3, I1, c2, h⟩ := fw_bd_some h
  refine fx_callSi (pc' := 4) (As := [.int x1]) (st := []) hC hN hA (ct_FL_isRecoverer l D aC g n K I x1 (r3, I1) hn c2) (va_cwS 1 hF.2.2.2.2 (fw_gS wq_2_42 wq_2_43 wq_1_1 wq_2_44) rfl rfl rfl ⟨by decide +kernel, by decide +kernel, by decide +kernel⟩ ⟨Nat.le_of_ble_eq_true rfl, Nat.le_of_ble_eq_true rfl⟩) ⟨Nat.zero_le _, Nat.zero_le _⟩ rfl rfl (Nat.le_of_ble_eq_true rfl) d_FL_recover_1 rfl ?_
  refine fx_if_eq hF (tgt := 21) (pc' := 7) d_FL_recover_4 rfl rfl (fun q4 => ?_) (fun q4 => ?_)
  · rw [if_pos q4] at h
    refine fx_iconst (pc' := 22) hF (v := (0 : Int32)) d_FL_recover_21 rfl rfl ?_
    exact he I1 _ _ rfl _ d_FL_recover_22 h
  · rw [if_neg q4] at h
    refine fx_aload_n (pc' := 8) hF d_FL_recover_7 rfl 0 rfl rfl ?_
    obtain ⟨a5, na5, ea5, ka5, h⟩ := fw_ld_some h
    refine fx_getr (pc' := 11) hC hk0 (by decide) rfl iw_FL 6 (by decide) (by decide) rfl na5 ea5 (hw _ wq_1_199) rfl d_FL_recover_8 rfl ?_
    refine fx_iload_n (pc' := 12) hF d_FL_recover_11 rfl 1 rfl rfl ?_
    refine fx_iconst (pc' := 13) hF (v := (1 : Int32)) d_FL_recover_12 rfl rfl ?_
    refine fx_isub (pc' := 14) hF d_FL_recover_13 rfl ?_
    obtain ⟨q6, h⟩ := fw_gd_some h
    obtain ⟨a7, na7, ea7, ka7, h⟩ := fw_ld_some h
    refine fx_aald25 (pc' := 15) hC ka5 q6 na7 ea7 d_FL_recover_14 rfl ?_
    refine fx_getiN (pc' := 18) hC ka7 (by decide) rfl iw_RC 1 (by decide) (by decide) rfl (va_Nw.use rfl (hN.1 _ wn_1_167)) rfl d_FL_recover_15 rfl ?_
    refine fx_if_eq hF (tgt := 23) (pc' := 21) d_FL_recover_18 rfl rfl (fun q8 => ?_) (fun q8 => ?_)
    · rw [if_pos q8] at h
      refine fx_aload_n (pc' := 24) hF d_FL_recover_23 rfl 0 rfl rfl ?_
      obtain ⟨a9, na9, ea9, ka9, h⟩ := fw_ld_some h
      refine fx_getr (pc' := 27) hC hk0 (by decide) rfl iw_FL 6 (by decide) (by decide) rfl na9 ea9 (hw _ wq_1_199) rfl d_FL_recover_24 rfl ?_
      refine fx_iload_n (pc' := 28) hF d_FL_recover_27 rfl 1 rfl rfl ?_
      refine fx_iconst (pc' := 29) hF (v := (1 : Int32)) d_FL_recover_28 rfl rfl ?_
      refine fx_isub (pc' := 30) hF d_FL_recover_29 rfl ?_
      obtain ⟨q10, h⟩ := fw_gd_some h
      obtain ⟨a11, na11, ea11, ka11, h⟩ := fw_ld_some h
      refine fx_aald25 (pc' := 31) hC ka9 q10 na11 ea11 d_FL_recover_30 rfl ?_
      refine fx_astore_n (pc' := 32) hF (lv' := [(2, .ref (g a11)), (0, .ref (g k0)), (1, .int x1)]) d_FL_recover_31 rfl (by decide) rfl rfl ?_
      refine fx_aload_n (pc' := 33) hF d_FL_recover_32 rfl 1 rfl rfl ?_
      refine fx_geti (pc' := 36) hC hk0 (by decide) rfl iw_FL 7 (by decide) (by decide) rfl (hw _ wq_1_200) rfl d_FL_recover_33 rfl ?_
      refine fx_iconst (pc' := 37) hF (v := (2 : Int32)) d_FL_recover_36 rfl rfl ?_
      refine fx_icmp_ne hF (tgt := 47) (pc' := 40) d_FL_recover_37 rfl rfl (fun q12 => ?_) (fun q12 => ?_)
      · rw [if_neg q12] at h
        refine fx_aload_n (pc' := 48) hF d_FL_recover_47 rfl 1 rfl rfl ?_
        refine fx_iconst (pc' := 49) hF (v := (1 : Int32)) d_FL_recover_48 rfl rfl ?_
        obtain ⟨I13, eI13, h⟩ := fw_let_some h
        refine fx_puti (pc' := 52) hC hk0 (by decide) rfl iw_FL 7 (by decide) (by decide) rfl ty_FL tyok_FL nn_FL rfl eI13 (tyok_FL 7 (by decide)) rfl rfl (hw _ wq_1_200) rfl d_FL_recover_49 rfl ?_
        refine fx_aload_n (pc' := 53) hF d_FL_recover_52 rfl 1 rfl rfl ?_
        refine fx_dup (pc' := 54) hF d_FL_recover_53 rfl rfl ?_
        refine fx_geti (pc' := 57) hC hk0 (by decide) rfl iw_FL 8 (by decide) (by decide) rfl (hw _ wq_1_201) rfl d_FL_recover_54 rfl ?_
        refine fx_iconst (pc' := 58) hF (v := (1 : Int32)) d_FL_recover_57 rfl rfl ?_
        refine fx_iadd (pc' := 59) hF d_FL_recover_58 rfl ?_
        obtain ⟨I14, eI14, h⟩ := fw_let_some h
        refine fx_puti (pc' := 62) hC hk0 (by decide) rfl iw_FL 8 (by decide) (by decide) rfl ty_FL tyok_FL nn_FL rfl eI14 (tyok_FL 8 (by decide)) rfl rfl (hw _ wq_1_201) rfl d_FL_recover_59 rfl ?_
        refine fx_aload_n (pc' := 63) hF d_FL_recover_62 rfl 0 rfl rfl ?_
        refine fx_aload_n (pc' := 64) hF d_FL_recover_63 rfl 1 rfl rfl ?_
        refine fx_geti (pc' := 67) hC hk0 (by decide) rfl iw_FL 8 (by decide) (by decide) rfl (hw _ wq_1_201) rfl d_FL_recover_64 rfl ?_
        obtain ⟨I15, c16, h⟩ := fw_bv_some h
        refine fx_callVNv (pc' := 70) (As := [.int (I14 k0 8)]) (st := []) hC hN hA ka11 (by decide) rfl (ct_RC_beginFencing l D aC g n K I14 a11 (I14 k0 8) I15 hn ka11 c16) ⟨va_cnB 1 hF.2.2.2.2 (fw_gN wq_2_48) rfl rfl rfl (hN.1 _ wn_2_45) (hw _ wq_1_7) ⟨by decide +kernel, by decide +kernel, by decide +kernel⟩ ⟨Nat.le_of_ble_eq_true rfl, Nat.le_of_ble_eq_true rfl⟩, hw _ wq_2_47, hw _ wsel_RC_beginFencing⟩ ⟨Nat.zero_le _, Nat.zero_le _⟩ rfl rfl (Nat.le_of_ble_eq_true rfl) d_FL_recover_67 rfl ?_
        refine fx_aload_n (pc' := 71) hF d_FL_recover_70 rfl 1 rfl rfl ?_
        refine fx_aload_n (pc' := 72) hF d_FL_recover_71 rfl 0 rfl rfl ?_
        obtain ⟨r19, I17, c18, h⟩ := fw_bd_some h
        refine fx_callVi (pc' := 75) (As := [.ref (g a11)]) (st := []) hC hN hA hk0 (by decide) rfl (ct_FL_sendStep l D aC g n K I15 k0 a11 (r19, I17) hn hk0 ka11 c18) (cwV 1 hF.2.2.2.2 (fw_gV wq_2_49 wq_2_51 wsel_FL_sendStep wq_1_1 wq_2_52) rfl rfl rfl ⟨rfl, by decide +kernel, by decide +kernel, by decide +kernel⟩ ⟨Nat.le_of_ble_eq_true rfl, Nat.le_of_ble_eq_true rfl⟩) ⟨Nat.zero_le _, Nat.zero_le _⟩ rfl rfl (Nat.le_of_ble_eq_true rfl) d_FL_recover_72 rfl ?_
        refine fx_pop (pc' := 76) hF d_FL_recover_75 rfl rfl ?_
        refine fx_iconst (pc' := 77) hF (v := (1 : Int32)) d_FL_recover_76 rfl rfl ?_
        exact he I17 _ _ rfl _ d_FL_recover_77 h
      · rw [if_pos q12] at h
        refine fx_aload_n (pc' := 41) hF d_FL_recover_40 rfl 0 rfl rfl ?_
        refine fx_iconst (pc' := 42) hF (v := (4 : Int32)) d_FL_recover_41 rfl rfl ?_
        obtain ⟨I20, eI20, h⟩ := fw_let_some h
        refine fx_putiN (pc' := 45) hC ka11 (by decide) rfl iw_RC 1 (by decide) (by decide) rfl ty_RC tyok_RC nn_RC rfl eI20 (tyok_RC 1 (by decide)) rfl rfl (va_Nw.use rfl (hN.1 _ wn_1_167)) rfl d_FL_recover_42 rfl ?_
        refine fx_iconst (pc' := 46) hF (v := (1 : Int32)) d_FL_recover_45 rfl rfl ?_
        exact he I20 _ _ rfl _ d_FL_recover_46 h
    · rw [if_neg q8] at h
      refine fx_iconst (pc' := 22) hF (v := (0 : Int32)) d_FL_recover_21 rfl rfl ?_
      exact he I1 _ _ rfl _ d_FL_recover_22 h
set_option maxHeartbeats 4000000 in
set_option maxRecDepth 100000 in
theorem ct_FL_retry (l : Launch) (D : va_G) (aC : Nat → ClassId) (g : Nat → Nat) (n : Nat) (K : Nat → Nat × Nat) (I : Nat → Nat → Int32) (k0 : Nat) (x1 : Int32) (Rr : Int32 × (Nat → Nat → Int32)) (hn : ∀ k, (K k).1 < 99 → k < n) (hk0 : (K k0).1 = 5) (h : fn_FL_retry K I k0 x1 = some Rr) : fw_Mi l y_FL_retry w_FL_retry r_FL_retry D aC g n K I [.ref (g k0), .int x1] Rr := by
  refine fw_ofGi (cc := b_FL_retry) (maxL := 2) (ws' := fw_ws) (by decide +kernel) hn (Nat.le_of_ble_eq_true rfl) rfl ?_
  intro p e s m args below meth c A Q hC hN hA he
  have hF := hC.1
  have hw : ∀ w ∈ fw_ws, w.before args s = true := fun w hw => hF.2.2.2.2 w (List.mem_cons_of_mem _ hw)
  unfold fn_FL_retry at h
  change fw_G p l e r_FL_retry s m args below meth c 0 0 Q 2 D aC A g n K I 0 [(0, .ref (g k0)), (1, .int x1)] []
  refine fx_iload_n (pc' := 1) hF d_FL_retry_0 rfl 1 rfl rfl ?_
  obtain ⟨r3, I1, c2, h⟩ := fw_bd_some h
  refine fx_callSi (pc' := 4) (As := [.int x1]) (st := []) hC hN hA (ct_FL_isRecoverer l D aC g n K I x1 (r3, I1) hn c2) (va_cwS 1 hF.2.2.2.2 (fw_gS wq_2_42 wq_2_43 wq_1_1 wq_2_44) rfl rfl rfl ⟨by decide +kernel, by decide +kernel, by decide +kernel⟩ ⟨Nat.le_of_ble_eq_true rfl, Nat.le_of_ble_eq_true rfl⟩) ⟨Nat.zero_le _, Nat.zero_le _⟩ rfl rfl (Nat.le_of_ble_eq_true rfl) d_FL_retry_1 rfl ?_
  refine fx_if_eq hF (tgt := 21) (pc' := 7) d_FL_retry_4 rfl rfl (fun q4 => ?_) (fun q4 => ?_)
  · rw [if_pos q4] at h
    refine fx_iconst (pc' := 22) hF (v := (-1 : Int32)) d_FL_retry_21 rfl rfl ?_
    exact he I1 _ _ rfl _ d_FL_retry_22 h
  · rw [if_neg q4] at h
    refine fx_aload_n (pc' := 8) hF d_FL_retry_7 rfl 0 rfl rfl ?_
    obtain ⟨a5, na5, ea5, ka5, h⟩ := fw_ld_some h
    refine fx_getr (pc' := 11) hC hk0 (by decide) rfl iw_FL 6 (by decide) (by decide) rfl na5 ea5 (hw _ wq_1_199) rfl d_FL_retry_8 rfl ?_
    refine fx_iload_n (pc' := 12) hF d_FL_retry_11 rfl 1 rfl rfl ?_
    refine fx_iconst (pc' := 13) hF (v := (1 : Int32)) d_FL_retry_12 rfl rfl ?_
    refine fx_isub (pc' := 14) hF d_FL_retry_13 rfl ?_
    obtain ⟨q6, h⟩ := fw_gd_some h
    obtain ⟨a7, na7, ea7, ka7, h⟩ := fw_ld_some h
    refine fx_aald25 (pc' := 15) hC ka5 q6 na7 ea7 d_FL_retry_14 rfl ?_
    obtain ⟨r10, I8, c9, h⟩ := fw_bd_some h
    refine fx_callVNi (pc' := 18) (As := []) (st := []) hC hN hA ka7 (by decide) rfl (ct_RC_isBusy l D aC g n K I1 a7 (r10, I8) hn ka7 c9) ⟨va_cnB 0 hF.2.2.2.2 (fw_gN wq_2_64) rfl rfl rfl (hN.1 _ wn_2_61) (hw _ wq_1_7) ⟨by decide +kernel, by decide +kernel, by decide +kernel⟩ ⟨Nat.le_of_ble_eq_true rfl, Nat.le_of_ble_eq_true rfl⟩, hw _ wq_2_63, hw _ wsel_RC_isBusy⟩ ⟨Nat.zero_le _, Nat.zero_le _⟩ rfl rfl (Nat.le_of_ble_eq_true rfl) d_FL_retry_15 rfl ?_
    refine fx_if_ne hF (tgt := 23) (pc' := 21) d_FL_retry_18 rfl rfl (fun q11 => ?_) (fun q11 => ?_)
    · rw [if_neg q11] at h
      refine fx_aload_n (pc' := 24) hF d_FL_retry_23 rfl 0 rfl rfl ?_
      refine fx_aload_n (pc' := 25) hF d_FL_retry_24 rfl 0 rfl rfl ?_
      obtain ⟨a12, na12, ea12, ka12, h⟩ := fw_ld_some h
      refine fx_getr (pc' := 28) hC hk0 (by decide) rfl iw_FL 6 (by decide) (by decide) rfl na12 ea12 (hw _ wq_1_199) rfl d_FL_retry_25 rfl ?_
      refine fx_iload_n (pc' := 29) hF d_FL_retry_28 rfl 1 rfl rfl ?_
      refine fx_iconst (pc' := 30) hF (v := (1 : Int32)) d_FL_retry_29 rfl rfl ?_
      refine fx_isub (pc' := 31) hF d_FL_retry_30 rfl ?_
      obtain ⟨q13, h⟩ := fw_gd_some h
      obtain ⟨a14, na14, ea14, ka14, h⟩ := fw_ld_some h
      refine fx_aald25 (pc' := 32) hC ka12 q13 na14 ea14 d_FL_retry_31 rfl ?_
      obtain ⟨r17, I15, c16, h⟩ := fw_bd_some h
      refine fx_callVi (pc' := 35) (As := [.ref (g a14)]) (st := []) hC hN hA hk0 (by decide) rfl (ct_FL_sendStep l D aC g n K I8 k0 a14 (r17, I15) hn hk0 ka14 c16) (cwV 1 hF.2.2.2.2 (fw_gV wq_2_49 wq_2_51 wsel_FL_sendStep wq_1_1 wq_2_52) rfl rfl rfl ⟨rfl, by decide +kernel, by decide +kernel, by decide +kernel⟩ ⟨Nat.le_of_ble_eq_true rfl, Nat.le_of_ble_eq_true rfl⟩) ⟨Nat.zero_le _, Nat.zero_le _⟩ rfl rfl (Nat.le_of_ble_eq_true rfl) d_FL_retry_32 rfl ?_
      exact he I15 _ _ rfl _ d_FL_retry_35 h
    · rw [if_pos q11] at h
      refine fx_iconst (pc' := 22) hF (v := (-1 : Int32)) d_FL_retry_21 rfl rfl ?_
      exact he I8 _ _ rfl _ d_FL_retry_22 h
set_option maxHeartbeats 4000000 in
set_option maxRecDepth 100000 in
theorem ct_FL_abandon (l : Launch) (D : va_G) (aC : Nat → ClassId) (g : Nat → Nat) (n : Nat) (K : Nat → Nat × Nat) (I : Nat → Nat → Int32) (k0 : Nat) (x1 : Int32) (Rr : Int32 × (Nat → Nat → Int32)) (hn : ∀ k, (K k).1 < 99 → k < n) (hk0 : (K k0).1 = 5) (h : fn_FL_abandon K I k0 x1 = some Rr) : fw_Mi l y_FL_abandon w_FL_abandon r_FL_abandon D aC g n K I [.ref (g k0), .int x1] Rr := by
  refine fw_ofGi (cc := b_FL_abandon) (maxL := 2) (ws' := fw_ws) (by decide +kernel) hn (Nat.le_of_ble_eq_true rfl) rfl ?_
  intro p e s m args below meth c A Q hC hN hA he
  have hF := hC.1
  have hw : ∀ w ∈ fw_ws, w.before args s = true := fun w hw => hF.2.2.2.2 w (List.mem_cons_of_mem _ hw)
  unfold fn_FL_abandon at h
  change fw_G p l e r_FL_abandon s m args below meth c 0 0 Q 2 D aC A g n K I 0 [(0, .ref (g k0)), (1, .int x1)] []
  refine fx_iload_n (pc' := 1) hF d_FL_abandon_0 rfl 1 rfl rfl ?_
  obtain ⟨r3, I1, c2, h⟩ := fw_bd_some h
  refine fx_callSi (pc' := 4) (As := [.int x1]) (st := []) hC hN hA (ct_FL_isRecoverer l D aC g n K I x1 (r3, I1) hn c2) (va_cwS 1 hF.2.2.2.2 (fw_gS wq_2_42 wq_2_43 wq_1_1 wq_2_44) rfl rfl rfl ⟨by decide +kernel, by decide +kernel, by decide +kernel⟩ ⟨Nat.le_of_ble_eq_true rfl, Nat.le_of_ble_eq_true rfl⟩) ⟨Nat.zero_le _, Nat.zero_le _⟩ rfl rfl (Nat.le_of_ble_eq_true rfl) d_FL_abandon_1 rfl ?_
  refine fx_if_eq hF (tgt := 21) (pc' := 7) d_FL_abandon_4 rfl rfl (fun q4 => ?_) (fun q4 => ?_)
  · rw [if_pos q4] at h
    refine fx_iconst (pc' := 22) hF (v := (0 : Int32)) d_FL_abandon_21 rfl rfl ?_
    exact he I1 _ _ rfl _ d_FL_abandon_22 h
  · rw [if_neg q4] at h
    refine fx_aload_n (pc' := 8) hF d_FL_abandon_7 rfl 0 rfl rfl ?_
    obtain ⟨a5, na5, ea5, ka5, h⟩ := fw_ld_some h
    refine fx_getr (pc' := 11) hC hk0 (by decide) rfl iw_FL 6 (by decide) (by decide) rfl na5 ea5 (hw _ wq_1_199) rfl d_FL_abandon_8 rfl ?_
    refine fx_iload_n (pc' := 12) hF d_FL_abandon_11 rfl 1 rfl rfl ?_
    refine fx_iconst (pc' := 13) hF (v := (1 : Int32)) d_FL_abandon_12 rfl rfl ?_
    refine fx_isub (pc' := 14) hF d_FL_abandon_13 rfl ?_
    obtain ⟨q6, h⟩ := fw_gd_some h
    obtain ⟨a7, na7, ea7, ka7, h⟩ := fw_ld_some h
    refine fx_aald25 (pc' := 15) hC ka5 q6 na7 ea7 d_FL_abandon_14 rfl ?_
    obtain ⟨r10, I8, c9, h⟩ := fw_bd_some h
    refine fx_callVNi (pc' := 18) (As := []) (st := []) hC hN hA ka7 (by decide) rfl (ct_RC_isBusy l D aC g n K I1 a7 (r10, I8) hn ka7 c9) ⟨va_cnB 0 hF.2.2.2.2 (fw_gN wq_2_64) rfl rfl rfl (hN.1 _ wn_2_61) (hw _ wq_1_7) ⟨by decide +kernel, by decide +kernel, by decide +kernel⟩ ⟨Nat.le_of_ble_eq_true rfl, Nat.le_of_ble_eq_true rfl⟩, hw _ wq_2_63, hw _ wsel_RC_isBusy⟩ ⟨Nat.zero_le _, Nat.zero_le _⟩ rfl rfl (Nat.le_of_ble_eq_true rfl) d_FL_abandon_15 rfl ?_
    refine fx_if_ne hF (tgt := 23) (pc' := 21) d_FL_abandon_18 rfl rfl (fun q11 => ?_) (fun q11 => ?_)
    · rw [if_neg q11] at h
      refine fx_aload_n (pc' := 24) hF d_FL_abandon_23 rfl 0 rfl rfl ?_
      obtain ⟨a12, na12, ea12, ka12, h⟩ := fw_ld_some h
      refine fx_getr (pc' := 27) hC hk0 (by decide) rfl iw_FL 6 (by decide) (by decide) rfl na12 ea12 (hw _ wq_1_199) rfl d_FL_abandon_24 rfl ?_
      refine fx_iload_n (pc' := 28) hF d_FL_abandon_27 rfl 1 rfl rfl ?_
      refine fx_iconst (pc' := 29) hF (v := (1 : Int32)) d_FL_abandon_28 rfl rfl ?_
      refine fx_isub (pc' := 30) hF d_FL_abandon_29 rfl ?_
      obtain ⟨q13, h⟩ := fw_gd_some h
      obtain ⟨a14, na14, ea14, ka14, h⟩ := fw_ld_some h
      refine fx_aald25 (pc' := 31) hC ka12 q13 na14 ea14 d_FL_abandon_30 rfl ?_
      refine fx_iconst (pc' := 32) hF (v := (0 : Int32)) d_FL_abandon_31 rfl rfl ?_
      obtain ⟨I15, eI15, h⟩ := fw_let_some h
      refine fx_putiN (pc' := 35) hC ka14 (by decide) rfl iw_RC 1 (by decide) (by decide) rfl ty_RC tyok_RC nn_RC rfl eI15 (tyok_RC 1 (by decide)) rfl rfl (va_Nw.use rfl (hN.1 _ wn_1_167)) rfl d_FL_abandon_32 rfl ?_
      refine fx_iconst (pc' := 36) hF (v := (1 : Int32)) d_FL_abandon_35 rfl rfl ?_
      exact he I15 _ _ rfl _ d_FL_abandon_36 h
    · rw [if_pos q11] at h
      refine fx_iconst (pc' := 22) hF (v := (0 : Int32)) d_FL_abandon_21 rfl rfl ?_
      exact he I8 _ _ rfl _ d_FL_abandon_22 h
set_option maxHeartbeats 4000000 in
set_option maxRecDepth 100000 in
theorem ct_FL_recoverer (l : Launch) (D : va_G) (aC : Nat → ClassId) (g : Nat → Nat) (n : Nat) (K : Nat → Nat × Nat) (I : Nat → Nat → Int32) (k0 : Nat) (x1 : Int32) (x2 : Int32) (Rr : Int32 × (Nat → Nat → Int32)) (hn : ∀ k, (K k).1 < 99 → k < n) (hk0 : (K k0).1 = 5) (h : fn_FL_recoverer K I k0 x1 x2 = some Rr) : fw_Mi l y_FL_recoverer w_FL_recoverer r_FL_recoverer D aC g n K I [.ref (g k0), .int x1, .int x2] Rr := by
  refine fw_ofGi (cc := b_FL_recoverer) (maxL := 3) (ws' := fw_ws) (by decide +kernel) hn (Nat.le_of_ble_eq_true rfl) rfl ?_
  intro p e s m args below meth c A Q hC hN hA he
  have hF := hC.1
  have hw : ∀ w ∈ fw_ws, w.before args s = true := fun w hw => hF.2.2.2.2 w (List.mem_cons_of_mem _ hw)
  unfold fn_FL_recoverer at h
  change fw_G p l e r_FL_recoverer s m args below meth c 0 0 Q 3 D aC A g n K I 0 [(0, .ref (g k0)), (1, .int x1), (2, .int x2)] []
  refine fx_iload_n (pc' := 1) hF d_FL_recoverer_0 rfl 1 rfl rfl ?_
  obtain ⟨r3, I1, c2, h⟩ := fw_bd_some h
  refine fx_callSi (pc' := 4) (As := [.int x1]) (st := []) hC hN hA (ct_FL_isRecoverer l D aC g n K I x1 (r3, I1) hn c2) (va_cwS 1 hF.2.2.2.2 (fw_gS wq_2_42 wq_2_43 wq_1_1 wq_2_44) rfl rfl rfl ⟨by decide +kernel, by decide +kernel, by decide +kernel⟩ ⟨Nat.le_of_ble_eq_true rfl, Nat.le_of_ble_eq_true rfl⟩) ⟨Nat.zero_le _, Nat.zero_le _⟩ rfl rfl (Nat.le_of_ble_eq_true rfl) d_FL_recoverer_1 rfl ?_
  refine fx_if_ne hF (tgt := 9) (pc' := 7) d_FL_recoverer_4 rfl rfl (fun q4 => ?_) (fun q4 => ?_)
  · rw [if_neg q4] at h
    refine fx_aload_n (pc' := 10) hF d_FL_recoverer_9 rfl 0 rfl rfl ?_
    obtain ⟨a5, na5, ea5, ka5, h⟩ := fw_ld_some h
    refine fx_getr (pc' := 13) hC hk0 (by decide) rfl iw_FL 6 (by decide) (by decide) rfl na5 ea5 (hw _ wq_1_199) rfl d_FL_recoverer_10 rfl ?_
    refine fx_iload_n (pc' := 14) hF d_FL_recoverer_13 rfl 1 rfl rfl ?_
    refine fx_iconst (pc' := 15) hF (v := (1 : Int32)) d_FL_recoverer_14 rfl rfl ?_
    refine fx_isub (pc' := 16) hF d_FL_recoverer_15 rfl ?_
    obtain ⟨q6, h⟩ := fw_gd_some h
    obtain ⟨a7, na7, ea7, ka7, h⟩ := fw_ld_some h
    refine fx_aald25 (pc' := 17) hC ka5 q6 na7 ea7 d_FL_recoverer_16 rfl ?_
    refine fx_iload_n (pc' := 18) hF d_FL_recoverer_17 rfl 2 rfl rfl ?_
    obtain ⟨r10, I8, c9, h⟩ := fw_bd_some h
    refine fx_callVNi (pc' := 21) (As := [.int x2]) (st := []) hC hN hA ka7 (by decide) rfl (ct_RC_detail l D aC g n K I1 a7 x2 (r10, I8) hn ka7 c9) ⟨va_cnB 1 hF.2.2.2.2 (fw_gN wq_2_76) rfl rfl rfl (hN.1 _ wn_2_73) (hw _ wq_1_7) ⟨by decide +kernel, by decide +kernel, by decide +kernel⟩ ⟨Nat.le_of_ble_eq_true rfl, Nat.le_of_ble_eq_true rfl⟩, hw _ wq_2_75, hw _ wsel_RC_detail⟩ ⟨Nat.zero_le _, Nat.zero_le _⟩ rfl rfl (Nat.le_of_ble_eq_true rfl) d_FL_recoverer_18 rfl ?_
    exact he I8 _ _ rfl _ d_FL_recoverer_21 h
  · rw [if_pos q4] at h
    refine fx_iconst (pc' := 8) hF (v := (-1 : Int32)) d_FL_recoverer_7 rfl rfl ?_
    exact he I1 _ _ rfl _ d_FL_recoverer_8 h
set_option maxHeartbeats 4000000 in
set_option maxRecDepth 100000 in
theorem ct_FL_finish (l : Launch) (D : va_G) (aC : Nat → ClassId) (g : Nat → Nat) (n : Nat) (K : Nat → Nat × Nat) (I : Nat → Nat → Int32) (k0 : Nat) (k1 : Nat) (x2 : Int32) (Rr : Nat → Nat → Int32) (hn : ∀ k, (K k).1 < 99 → k < n) (hk0 : (K k0).1 = 5) (hk1 : (K k1).1 = 2) (h : fn_FL_finish K I k0 k1 x2 = some Rr) : fw_Mv l y_FL_finish w_FL_finish r_FL_finish D aC g n K I [.ref (g k0), .ref (g k1), .int x2] Rr := by
  refine fw_ofGv (cc := b_FL_finish) (maxL := 3) (ws' := fw_ws) (by decide +kernel) hn (Nat.le_of_ble_eq_true rfl) rfl ?_
  intro p e s m args below meth c A Q hC hN hA he
  have hF := hC.1
  have hw : ∀ w ∈ fw_ws, w.before args s = true := fun w hw => hF.2.2.2.2 w (List.mem_cons_of_mem _ hw)
  unfold fn_FL_finish at h
  have B24 : ∀ (I : Nat → Nat → Int32) (k1 : Nat) (hk1 : (K k1).1 = 2), fn_FL_finish_24 K I k0 k1 = some Rr → fw_G p l e r_FL_finish s m args below meth c 0 0 Q 3 D aC A g n K I 24 [(0, .ref (g k0)), (1, .ref (g k1))] [] := by
    intro I k1 hk1 h
    unfold fn_FL_finish_24 at h
    refine fx_aload_n (pc' := 25) hF d_FL_finish_24 rfl 1 rfl rfl ?_
    refine fx_aload_n (pc' := 26) hF d_FL_finish_25 rfl 0 rfl rfl ?_
    refine fx_geti (pc' := 29) hC hk0 (by decide) rfl iw_FL 7 (by decide) (by decide) rfl (hw _ wq_1_200) rfl d_FL_finish_26 rfl ?_
    refine fx_iconst (pc' := 30) hF (v := (2 : Int32)) d_FL_finish_29 rfl rfl ?_
    refine fx_icmp_ne hF (tgt := 37) (pc' := 33) d_FL_finish_30 rfl rfl (fun q2 => ?_) (fun q2 => ?_)
    · rw [if_neg q2] at h
      refine fx_iconst (pc' := 38) hF (v := (0 : Int32)) d_FL_finish_37 rfl rfl ?_
      obtain ⟨I3, eI3, h⟩ := fw_let_some h
      refine fx_putiN (pc' := 41) hC hk1 (by decide) rfl iw_RC 1 (by decide) (by decide) rfl ty_RC tyok_RC nn_RC rfl eI3 (tyok_RC 1 (by decide)) rfl rfl (va_Nw.use rfl (hN.1 _ wn_1_167)) rfl d_FL_finish_38 rfl ?_
      exact he I3 _ _ d_FL_finish_41 h
    · rw [if_pos q2] at h
      refine fx_iconst (pc' := 34) hF (v := (4 : Int32)) d_FL_finish_33 rfl rfl ?_
      refine fx_goto hF (tgt := 38) d_FL_finish_34 rfl ?_
      obtain ⟨I4, eI4, h⟩ := fw_let_some h
      refine fx_putiN (pc' := 41) hC hk1 (by decide) rfl iw_RC 1 (by decide) (by decide) rfl ty_RC tyok_RC nn_RC rfl eI4 (tyok_RC 1 (by decide)) rfl rfl (va_Nw.use rfl (hN.1 _ wn_1_167)) rfl d_FL_finish_38 rfl ?_
      exact he I4 _ _ d_FL_finish_41 h
  change fw_G p l e r_FL_finish s m args below meth c 0 0 Q 3 D aC A g n K I 0 [(0, .ref (g k0)), (1, .ref (g k1)), (2, .int x2)] []
  refine fx_aload_n (pc' := 1) hF d_FL_finish_0 rfl 0 rfl rfl ?_
  refine fx_geti (pc' := 4) hC hk0 (by decide) rfl iw_FL 7 (by decide) (by decide) rfl (hw _ wq_1_200) rfl d_FL_finish_1 rfl ?_
  refine fx_iconst (pc' := 5) hF (v := (1 : Int32)) d_FL_finish_4 rfl rfl ?_
  refine fx_icmp_ne hF (tgt := 24) (pc' := 8) d_FL_finish_5 rfl rfl (fun q1 => ?_) (fun q1 => ?_)
  · rw [if_neg q1] at h
    refine fx_lv [0, 1] rfl ?_
    exact B24 I k1 hk1 h
  · rw [if_pos q1] at h
    refine fx_aload_n (pc' := 9) hF d_FL_finish_8 rfl 0 rfl rfl ?_
    refine fx_geti (pc' := 12) hC hk0 (by decide) rfl iw_FL 8 (by decide) (by decide) rfl (hw _ wq_1_201) rfl d_FL_finish_9 rfl ?_
    refine fx_aload_n (pc' := 13) hF d_FL_finish_12 rfl 1 rfl rfl ?_
    refine fx_getiN (pc' := 16) hC hk1 (by decide) rfl iw_RC 2 (by decide) (by decide) rfl (va_Nw.use rfl (hN.1 _ wn_1_169)) rfl d_FL_finish_13 rfl ?_
    refine fx_icmp_ne hF (tgt := 24) (pc' := 19) d_FL_finish_16 rfl rfl (fun q5 => ?_) (fun q5 => ?_)
    · rw [if_neg q5] at h
      refine fx_lv [0, 1] rfl ?_
      exact B24 I k1 hk1 h
    · rw [if_pos q5] at h
      refine fx_aload_n (pc' := 20) hF d_FL_finish_19 rfl 0 rfl rfl ?_
      refine fx_iload_n (pc' := 21) hF d_FL_finish_20 rfl 2 rfl rfl ?_
      obtain ⟨I6, c7, h⟩ := fw_bv_some h
      refine fx_callVv (pc' := 24) (As := [.int x2]) (st := []) hC hN hA hk0 (by decide) rfl (ct_FL_shutLedger l D aC g n K I k0 x2 I6 hn hk0 c7) (cwV 1 hF.2.2.2.2 (fw_gV wq_2_22 wq_2_24 wsel_FL_shutLedger wq_1_1 wq_2_25) rfl rfl rfl ⟨rfl, by decide +kernel, by decide +kernel, by decide +kernel⟩ ⟨Nat.le_of_ble_eq_true rfl, Nat.le_of_ble_eq_true rfl⟩) ⟨Nat.zero_le _, Nat.zero_le _⟩ rfl rfl (Nat.le_of_ble_eq_true rfl) d_FL_finish_21 rfl ?_
      refine fx_lv [0, 1] rfl ?_
      exact B24 I6 k1 hk1 h
set_option maxHeartbeats 4000000 in
set_option maxRecDepth 100000 in
theorem ct_FL_readOn (l : Launch) (D : va_G) (aC : Nat → ClassId) (g : Nat → Nat) (n : Nat) (K : Nat → Nat × Nat) (I : Nat → Nat → Int32) (k0 : Nat) (k1 : Nat) (x2 : Int32) (Rr : Nat → Nat → Int32) (hn : ∀ k, (K k).1 < 99 → k < n) (hk0 : (K k0).1 = 5) (hk1 : (K k1).1 = 2) (h : fn_FL_readOn K I k0 k1 x2 = some Rr) : fw_Mv l y_FL_readOn w_FL_readOn r_FL_readOn D aC g n K I [.ref (g k0), .ref (g k1), .int x2] Rr := by
  refine fw_ofGv (cc := b_FL_readOn) (maxL := 3) (ws' := fw_ws) (by decide +kernel) hn (Nat.le_of_ble_eq_true rfl) rfl ?_
  intro p e s m args below meth c A Q hC hN hA he
  have hF := hC.1
  have hw : ∀ w ∈ fw_ws, w.before args s = true := fun w hw => hF.2.2.2.2 w (List.mem_cons_of_mem _ hw)
  unfold fn_FL_readOn at h
  change fw_G p l e r_FL_readOn s m args below meth c 0 0 Q 3 D aC A g n K I 0 [(0, .ref (g k0)), (1, .ref (g k1)), (2, .int x2)] []
  refine fx_iload_n (pc' := 1) hF d_FL_readOn_0 rfl 2 rfl rfl ?_
  refine fx_bipush (pc' := 3) hF (v := (20 : Int32)) d_FL_readOn_1 rfl rfl ?_
  refine fx_icmp_lt hF (tgt := 15) (pc' := 6) d_FL_readOn_3 rfl rfl (fun q1 => ?_) (fun q1 => ?_)
  · rw [if_pos q1] at h
    refine fx_aload_n (pc' := 16) hF d_FL_readOn_15 rfl 1 rfl rfl ?_
    refine fx_iload_n (pc' := 17) hF d_FL_readOn_16 rfl 2 rfl rfl ?_
    obtain ⟨I2, c3, h⟩ := fw_bv_some h
    refine fx_callVNv (pc' := 20) (As := [.int x2]) (st := []) hC hN hA hk1 (by decide) rfl (ct_RC_beginReading l D aC g n K I k1 x2 I2 hn hk1 c3) ⟨va_cnB 1 hF.2.2.2.2 (fw_gN wq_2_155) rfl rfl rfl (hN.1 _ wn_2_152) (hw _ wq_1_7) ⟨by decide +kernel, by decide +kernel, by decide +kernel⟩ ⟨Nat.le_of_ble_eq_true rfl, Nat.le_of_ble_eq_true rfl⟩, hw _ wq_2_154, hw _ wsel_RC_beginReading⟩ ⟨Nat.zero_le _, Nat.zero_le _⟩ rfl rfl (Nat.le_of_ble_eq_true rfl) d_FL_readOn_17 rfl ?_
    refine fx_aload_n (pc' := 21) hF d_FL_readOn_20 rfl 0 rfl rfl ?_
    refine fx_aload_n (pc' := 22) hF d_FL_readOn_21 rfl 1 rfl rfl ?_
    obtain ⟨r6, I4, c5, h⟩ := fw_bd_some h
    refine fx_callVi (pc' := 25) (As := [.ref (g k1)]) (st := []) hC hN hA hk0 (by decide) rfl (ct_FL_sendStep l D aC g n K I2 k0 k1 (r6, I4) hn hk0 hk1 c5) (cwV 1 hF.2.2.2.2 (fw_gV wq_2_49 wq_2_51 wsel_FL_sendStep wq_1_1 wq_2_52) rfl rfl rfl ⟨rfl, by decide +kernel, by decide +kernel, by decide +kernel⟩ ⟨Nat.le_of_ble_eq_true rfl, Nat.le_of_ble_eq_true rfl⟩) ⟨Nat.zero_le _, Nat.zero_le _⟩ rfl rfl (Nat.le_of_ble_eq_true rfl) d_FL_readOn_22 rfl ?_
    refine fx_pop (pc' := 26) hF d_FL_readOn_25 rfl rfl ?_
    exact he I4 _ _ d_FL_readOn_26 h
  · rw [if_neg q1] at h
    refine fx_aload_n (pc' := 7) hF d_FL_readOn_6 rfl 0 rfl rfl ?_
    refine fx_aload_n (pc' := 8) hF d_FL_readOn_7 rfl 1 rfl rfl ?_
    refine fx_iload_n (pc' := 9) hF d_FL_readOn_8 rfl 2 rfl rfl ?_
    refine fx_iconst (pc' := 10) hF (v := (1 : Int32)) d_FL_readOn_9 rfl rfl ?_
    refine fx_isub (pc' := 11) hF d_FL_readOn_10 rfl ?_
    obtain ⟨I7, c8, h⟩ := fw_bv_some h
    refine fx_callVv (pc' := 14) (As := [.ref (g k1), .int (x2 - (1 : Int32))]) (st := []) hC hN hA hk0 (by decide) rfl (ct_FL_finish l D aC g n K I k0 k1 (x2 - (1 : Int32)) I7 hn hk0 hk1 c8) (cwV 2 hF.2.2.2.2 (fw_gV wq_2_148 wq_2_150 wsel_FL_finish wq_1_1 wq_2_151) rfl rfl rfl ⟨rfl, by decide +kernel, by decide +kernel, by decide +kernel⟩ ⟨Nat.le_of_ble_eq_true rfl, Nat.le_of_ble_eq_true rfl⟩) ⟨Nat.zero_le _, Nat.zero_le _⟩ rfl rfl (Nat.le_of_ble_eq_true rfl) d_FL_readOn_11 rfl ?_
    exact he I7 _ _ d_FL_readOn_14 h
set_option maxHeartbeats 4000000 in
set_option maxRecDepth 100000 in
theorem ct_FL_hearAdded (l : Launch) (D : va_G) (aC : Nat → ClassId) (g : Nat → Nat) (n : Nat) (K : Nat → Nat × Nat) (I : Nat → Nat → Int32) (k0 : Nat) (k1 : Nat) (k2 : Nat) (Rr : Nat → Nat → Int32) (hn : ∀ k, (K k).1 < 99 → k < n) (hk0 : (K k0).1 = 5) (hk1 : (K k1).1 = 2) (hk2 : (K k2).1 = 1) (h : fn_FL_hearAdded K I k0 k1 k2 = some Rr) : fw_Mv l y_FL_hearAdded w_FL_hearAdded r_FL_hearAdded D aC g n K I [.ref (g k0), .ref (g k1), .ref (g k2)] Rr := by
  refine fw_ofGv (cc := b_FL_hearAdded) (maxL := 3) (ws' := fw_ws) (by decide +kernel) hn (Nat.le_of_ble_eq_true rfl) rfl ?_
  intro p e s m args below meth c A Q hC hN hA he
  have hF := hC.1
  have hw : ∀ w ∈ fw_ws, w.before args s = true := fun w hw => hF.2.2.2.2 w (List.mem_cons_of_mem _ hw)
  unfold fn_FL_hearAdded at h
  change fw_G p l e r_FL_hearAdded s m args below meth c 0 0 Q 3 D aC A g n K I 0 [(0, .ref (g k0)), (1, .ref (g k1)), (2, .ref (g k2))] []
  refine fx_aload_n (pc' := 1) hF d_FL_hearAdded_0 rfl 1 rfl rfl ?_
  refine fx_aload_n (pc' := 2) hF d_FL_hearAdded_1 rfl 2 rfl rfl ?_
  refine fx_getiN (pc' := 5) hC hk2 (by decide) rfl iw_MS 2 (by decide) (by decide) rfl (va_Nw.use rfl (hN.1 _ wn_1_89)) rfl d_FL_hearAdded_2 rfl ?_
  obtain ⟨I1, c2, h⟩ := fw_bv_some h
  refine fx_callVNv (pc' := 8) (As := [.int (I k2 2)]) (st := []) hC hN hA hk1 (by decide) rfl (ct_RC_noteAnswer l D aC g n K I k1 (I k2 2) I1 hn hk1 c2) ⟨va_cnB 1 hF.2.2.2.2 (fw_gN wq_2_135) rfl rfl rfl (hN.1 _ wn_2_132) (hw _ wq_1_7) ⟨by decide +kernel, by decide +kernel, by decide +kernel⟩ ⟨Nat.le_of_ble_eq_true rfl, Nat.le_of_ble_eq_true rfl⟩, hw _ wq_2_134, hw _ wsel_RC_noteAnswer⟩ ⟨Nat.zero_le _, Nat.zero_le _⟩ rfl rfl (Nat.le_of_ble_eq_true rfl) d_FL_hearAdded_5 rfl ?_
  refine fx_aload_n (pc' := 9) hF d_FL_hearAdded_8 rfl 1 rfl rfl ?_
  obtain ⟨r5, I3, c4, h⟩ := fw_bd_some h
  refine fx_callVNi (pc' := 12) (As := []) (st := []) hC hN hA hk1 (by decide) rfl (ct_RC_countAnswered l D aC g n K I1 k1 (r5, I3) hn hk1 c4) ⟨va_cnB 0 hF.2.2.2.2 (fw_gN wq_2_80) rfl rfl rfl (hN.1 _ wn_2_168) (hw _ wq_1_7) ⟨by decide +kernel, by decide +kernel, by decide +kernel⟩ ⟨Nat.le_of_ble_eq_true rfl, Nat.le_of_ble_eq_true rfl⟩, hw _ wq_2_79, hw _ wsel_RC_countAnswered⟩ ⟨Nat.zero_le _, Nat.zero_le _⟩ rfl rfl (Nat.le_of_ble_eq_true rfl) d_FL_hearAdded_9 rfl ?_
  refine fx_aload_n (pc' := 13) hF d_FL_hearAdded_12 rfl 0 rfl rfl ?_
  refine fx_geti (pc' := 16) hC hk0 (by decide) rfl iw_FL 2 (by decide) (by decide) rfl (hw _ wq_1_195) rfl d_FL_hearAdded_13 rfl ?_
  refine fx_icmp_lt hF (tgt := 30) (pc' := 19) d_FL_hearAdded_16 rfl rfl (fun q6 => ?_) (fun q6 => ?_)
  · rw [if_pos q6] at h
    exact he I3 _ _ d_FL_hearAdded_30 h
  · rw [if_neg q6] at h
    refine fx_aload_n (pc' := 20) hF d_FL_hearAdded_19 rfl 0 rfl rfl ?_
    refine fx_aload_n (pc' := 21) hF d_FL_hearAdded_20 rfl 1 rfl rfl ?_
    refine fx_aload_n (pc' := 22) hF d_FL_hearAdded_21 rfl 1 rfl rfl ?_
    refine fx_getiN (pc' := 25) hC hk1 (by decide) rfl iw_RC 3 (by decide) (by decide) rfl (va_Nw.use rfl (hN.1 _ wn_1_171)) rfl d_FL_hearAdded_22 rfl ?_
    refine fx_iconst (pc' := 26) hF (v := (1 : Int32)) d_FL_hearAdded_25 rfl rfl ?_
    refine fx_iadd (pc' := 27) hF d_FL_hearAdded_26 rfl ?_
    obtain ⟨I7, c8, h⟩ := fw_bv_some h
    refine fx_callVv (pc' := 30) (As := [.ref (g k1), .int ((I3 k1 3) + (1 : Int32))]) (st := []) hC hN hA hk0 (by decide) rfl (ct_FL_readOn l D aC g n K I3 k0 k1 ((I3 k1 3) + (1 : Int32)) I7 hn hk0 hk1 c8) (cwV 2 hF.2.2.2.2 (fw_gV wq_2_144 wq_2_146 wsel_FL_readOn wq_1_1 wq_2_147) rfl rfl rfl ⟨rfl, by decide +kernel, by decide +kernel, by decide +kernel⟩ ⟨Nat.le_of_ble_eq_true rfl, Nat.le_of_ble_eq_true rfl⟩) ⟨Nat.zero_le _, Nat.zero_le _⟩ rfl rfl (Nat.le_of_ble_eq_true rfl) d_FL_hearAdded_27 rfl ?_
    exact he I7 _ _ d_FL_hearAdded_30 h
set_option maxHeartbeats 4000000 in
set_option maxRecDepth 100000 in
theorem ct_FL_hearMissing (l : Launch) (D : va_G) (aC : Nat → ClassId) (g : Nat → Nat) (n : Nat) (K : Nat → Nat × Nat) (I : Nat → Nat → Int32) (k0 : Nat) (k1 : Nat) (k2 : Nat) (Rr : Nat → Nat → Int32) (hn : ∀ k, (K k).1 < 99 → k < n) (hk0 : (K k0).1 = 5) (hk1 : (K k1).1 = 2) (hk2 : (K k2).1 = 1) (h : fn_FL_hearMissing K I k0 k1 k2 = some Rr) : fw_Mv l y_FL_hearMissing w_FL_hearMissing r_FL_hearMissing D aC g n K I [.ref (g k0), .ref (g k1), .ref (g k2)] Rr := by
  refine fw_ofGv (cc := b_FL_hearMissing) (maxL := 3) (ws' := fw_ws) (by decide +kernel) hn (Nat.le_of_ble_eq_true rfl) rfl ?_
  intro p e s m args below meth c A Q hC hN hA he
  have hF := hC.1
  have hw : ∀ w ∈ fw_ws, w.before args s = true := fun w hw => hF.2.2.2.2 w (List.mem_cons_of_mem _ hw)
  unfold fn_FL_hearMissing at h
  change fw_G p l e r_FL_hearMissing s m args below meth c 0 0 Q 3 D aC A g n K I 0 [(0, .ref (g k0)), (1, .ref (g k1)), (2, .ref (g k2))] []
  refine fx_aload_n (pc' := 1) hF d_FL_hearMissing_0 rfl 1 rfl rfl ?_
  refine fx_aload_n (pc' := 2) hF d_FL_hearMissing_1 rfl 2 rfl rfl ?_
  refine fx_getiN (pc' := 5) hC hk2 (by decide) rfl iw_MS 2 (by decide) (by decide) rfl (va_Nw.use rfl (hN.1 _ wn_1_89)) rfl d_FL_hearMissing_2 rfl ?_
  obtain ⟨I1, c2, h⟩ := fw_bv_some h
  refine fx_callVNv (pc' := 8) (As := [.int (I k2 2)]) (st := []) hC hN hA hk1 (by decide) rfl (ct_RC_noteAnswer l D aC g n K I k1 (I k2 2) I1 hn hk1 c2) ⟨va_cnB 1 hF.2.2.2.2 (fw_gN wq_2_135) rfl rfl rfl (hN.1 _ wn_2_132) (hw _ wq_1_7) ⟨by decide +kernel, by decide +kernel, by decide +kernel⟩ ⟨Nat.le_of_ble_eq_true rfl, Nat.le_of_ble_eq_true rfl⟩, hw _ wq_2_134, hw _ wsel_RC_noteAnswer⟩ ⟨Nat.zero_le _, Nat.zero_le _⟩ rfl rfl (Nat.le_of_ble_eq_true rfl) d_FL_hearMissing_5 rfl ?_
  refine fx_aload_n (pc' := 9) hF d_FL_hearMissing_8 rfl 1 rfl rfl ?_
  obtain ⟨r5, I3, c4, h⟩ := fw_bd_some h
  refine fx_callVNi (pc' := 12) (As := []) (st := []) hC hN hA hk1 (by decide) rfl (ct_RC_countAnswered l D aC g n K I1 k1 (r5, I3) hn hk1 c4) ⟨va_cnB 0 hF.2.2.2.2 (fw_gN wq_2_80) rfl rfl rfl (hN.1 _ wn_2_168) (hw _ wq_1_7) ⟨by decide +kernel, by decide +kernel, by decide +kernel⟩ ⟨Nat.le_of_ble_eq_true rfl, Nat.le_of_ble_eq_true rfl⟩, hw _ wq_2_79, hw _ wsel_RC_countAnswered⟩ ⟨Nat.zero_le _, Nat.zero_le _⟩ rfl rfl (Nat.le_of_ble_eq_true rfl) d_FL_hearMissing_9 rfl ?_
  refine fx_aload_n (pc' := 13) hF d_FL_hearMissing_12 rfl 0 rfl rfl ?_
  refine fx_geti (pc' := 16) hC hk0 (by decide) rfl iw_FL 1 (by decide) (by decide) rfl (hw _ wq_1_194) rfl d_FL_hearMissing_13 rfl ?_
  refine fx_aload_n (pc' := 17) hF d_FL_hearMissing_16 rfl 0 rfl rfl ?_
  refine fx_geti (pc' := 20) hC hk0 (by decide) rfl iw_FL 2 (by decide) (by decide) rfl (hw _ wq_1_195) rfl d_FL_hearMissing_17 rfl ?_
  refine fx_isub (pc' := 21) hF d_FL_hearMissing_20 rfl ?_
  refine fx_iconst (pc' := 22) hF (v := (1 : Int32)) d_FL_hearMissing_21 rfl rfl ?_
  refine fx_iadd (pc' := 23) hF d_FL_hearMissing_22 rfl ?_
  refine fx_icmp_lt hF (tgt := 37) (pc' := 26) d_FL_hearMissing_23 rfl rfl (fun q6 => ?_) (fun q6 => ?_)
  · rw [if_pos q6] at h
    exact he I3 _ _ d_FL_hearMissing_37 h
  · rw [if_neg q6] at h
    refine fx_aload_n (pc' := 27) hF d_FL_hearMissing_26 rfl 0 rfl rfl ?_
    refine fx_aload_n (pc' := 28) hF d_FL_hearMissing_27 rfl 1 rfl rfl ?_
    refine fx_aload_n (pc' := 29) hF d_FL_hearMissing_28 rfl 1 rfl rfl ?_
    refine fx_getiN (pc' := 32) hC hk1 (by decide) rfl iw_RC 3 (by decide) (by decide) rfl (va_Nw.use rfl (hN.1 _ wn_1_171)) rfl d_FL_hearMissing_29 rfl ?_
    refine fx_iconst (pc' := 33) hF (v := (1 : Int32)) d_FL_hearMissing_32 rfl rfl ?_
    refine fx_isub (pc' := 34) hF d_FL_hearMissing_33 rfl ?_
    obtain ⟨I7, c8, h⟩ := fw_bv_some h
    refine fx_callVv (pc' := 37) (As := [.ref (g k1), .int ((I3 k1 3) - (1 : Int32))]) (st := []) hC hN hA hk0 (by decide) rfl (ct_FL_finish l D aC g n K I3 k0 k1 ((I3 k1 3) - (1 : Int32)) I7 hn hk0 hk1 c8) (cwV 2 hF.2.2.2.2 (fw_gV wq_2_148 wq_2_150 wsel_FL_finish wq_1_1 wq_2_151) rfl rfl rfl ⟨rfl, by decide +kernel, by decide +kernel, by decide +kernel⟩ ⟨Nat.le_of_ble_eq_true rfl, Nat.le_of_ble_eq_true rfl⟩) ⟨Nat.zero_le _, Nat.zero_le _⟩ rfl rfl (Nat.le_of_ble_eq_true rfl) d_FL_hearMissing_34 rfl ?_
    exact he I7 _ _ d_FL_hearMissing_37 h
