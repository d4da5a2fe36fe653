set_option maxHeartbeats 4000000 in
set_option maxRecDepth 100000 in
theorem ct_JI_bitCount (l : Launch) (D : va_G) (aC : Nat → ClassId) (g : Nat → Nat) (n : Nat) (K : Nat → Nat × Nat) (I : Nat → Nat → Int32) (x0 : Int32) (Rr : Int32 × (Nat → Nat → Int32)) (hn : ∀ k, (K k).1 < 99 → k < n) (h : fn_JI_bitCount K I x0 = some Rr) : fw_Mi l y_JI_bitCount w_JI_bitCount r_JI_bitCount D aC g n K I [.int x0] Rr := by
  refine fw_ofGiF (cc := b_JI_bitCount) (maxL := 1) (ws' := fw_ws) (by decide +kernel) hn (Nat.le_of_ble_eq_true rfl) rfl ?_
  intro p e s m args below meth c A Q hC hN hA he
  have hF := hC.1
  have hw : ∀ w ∈ fw_ws, w.before args s = true := fun w hw => hF.2.2.2.2 w (List.mem_cons_of_mem _ hw)
  unfold fn_JI_bitCount at h
  change fw_G p l e r_JI_bitCount s m args below meth c 0 0 Q 1 D aC A g n K I 0 [(0, .int x0)] []
  refine fx_iload_n (pc' := 1) hF d_JI_bitCount_0 rfl 0 rfl rfl ?_
  refine fx_iload_n (pc' := 2) hF d_JI_bitCount_1 rfl 0 rfl rfl ?_
  refine fx_iconst (pc' := 3) hF (v := (1 : Int32)) d_JI_bitCount_2 rfl rfl ?_
  refine fx_iushr (pc' := 4) hF d_JI_bitCount_3 rfl ?_
  refine fx_ldc_w (pc' := 7) hF (v := (1431655765 : Int32)) (hw _ wq_1_239) d_JI_bitCount_4 rfl ?_
  refine fx_iand (pc' := 8) hF d_JI_bitCount_7 rfl ?_
  refine fx_isub (pc' := 9) hF d_JI_bitCount_8 rfl ?_
  refine fx_istore_n (pc' := 10) hF (lv' := [(0, .int (x0 - (((x0.toUInt32 >>> ((1 : Int32).toUInt32 &&& Int32.toUInt32 31)).toInt32) &&& (1431655765 : Int32))))]) d_JI_bitCount_9 rfl (by decide) rfl rfl ?_
  refine fx_iload_n (pc' := 11) hF d_JI_bitCount_10 rfl 0 rfl rfl ?_
  refine fx_ldc_w (pc' := 14) hF (v := (858993459 : Int32)) (hw _ wq_2_0) d_JI_bitCount_11 rfl ?_
  refine fx_iand (pc' := 15) hF d_JI_bitCount_14 rfl ?_
  refine fx_iload_n (pc' := 16) hF d_JI_bitCount_15 rfl 0 rfl rfl ?_
  refine fx_iconst (pc' := 17) hF (v := (2 : Int32)) d_JI_bitCount_16 rfl rfl ?_
  refine fx_iushr (pc' := 18) hF d_JI_bitCount_17 rfl ?_
  refine fx_ldc_w (pc' := 21) hF (v := (858993459 : Int32)) (hw _ wq_2_0) d_JI_bitCount_18 rfl ?_
  refine fx_iand (pc' := 22) hF d_JI_bitCount_21 rfl ?_
  refine fx_iadd (pc' := 23) hF d_JI_bitCount_22 rfl ?_
  refine fx_istore_n (pc' := 24) hF (lv' := [(0, .int (((x0 - (((x0.toUInt32 >>> ((1 : Int32).toUInt32 &&& Int32.toUInt32 31)).toInt32) &&& (1431655765 : Int32))) &&& (858993459 : Int32)) + ((((x0 - (((x0.toUInt32 >>> ((1 : Int32).toUInt32 &&& Int32.toUInt32 31)).toInt32) &&& (1431655765 : Int32))).toUInt32 >>> ((2 : Int32).toUInt32 &&& Int32.toUInt32 31)).toInt32) &&& (858993459 : Int32))))]) d_JI_bitCount_23 rfl (by decide) rfl rfl ?_
  refine fx_iload_n (pc' := 25) hF d_JI_bitCount_24 rfl 0 rfl rfl ?_
  refine fx_iload_n (pc' := 26) hF d_JI_bitCount_25 rfl 0 rfl rfl ?_
  refine fx_iconst (pc' := 27) hF (v := (4 : Int32)) d_JI_bitCount_26 rfl rfl ?_
  refine fx_iushr (pc' := 28) hF d_JI_bitCount_27 rfl ?_
  refine fx_iadd (pc' := 29) hF d_JI_bitCount_28 rfl ?_
  refine fx_ldc_w (pc' := 32) hF (v := (252645135 : Int32)) (hw _ wq_2_1) d_JI_bitCount_29 rfl ?_
  refine fx_iand (pc' := 33) hF d_JI_bitCount_32 rfl ?_
  refine fx_istore_n (pc' := 34) hF (lv' := [(0, .int (((((x0 - (((x0.toUInt32 >>> ((1 : Int32).toUInt32 &&& Int32.toUInt32 31)).toInt32) &&& (1431655765 : Int32))) &&& (858993459 : Int32)) + ((((x0 - (((x0.toUInt32 >>> ((1 : Int32).toUInt32 &&& Int32.toUInt32 31)).toInt32) &&& (1431655765 : Int32))).toUInt32 >>> ((2 : Int32).toUInt32 &&& Int32.toUInt32 31)).toInt32) &&& (858993459 : Int32))) + (((((x0 - (((x0.toUInt32 >>> ((1 : Int32).toUInt32 &&& Int32.toUInt32 31)).toInt32) &&& (1431655765 : Int32))) &&& (858993459 : Int32)) + ((((x0 - (((x0.toUInt32 >>> ((1 : Int32).toUInt32 &&& Int32.toUInt32 31)).toInt32) &&& (1431655765 : Int32))).toUInt32 >>> ((2 : Int32).toUInt32 &&& Int32.toUInt32 31)).toInt32) &&& (858993459 : Int32))).toUInt32 >>> ((4 : Int32).toUInt32 &&& Int32.toUInt32 31)).toInt32)) &&& (252645135 : Int32)))]) d_JI_bitCount_33 rfl (by decide) rfl rfl ?_
  refine fx_iload_n (pc' := 35) hF d_JI_bitCount_34 rfl 0 rfl rfl ?_
  refine fx_iload_n (pc' := 36) hF d_JI_bitCount_35 rfl 0 rfl rfl ?_
  refine fx_bipush (pc' := 38) hF (v := (8 : Int32)) d_JI_bitCount_36 rfl rfl ?_
  refine fx_iushr (pc' := 39) hF d_JI_bitCount_38 rfl ?_
  refine fx_iadd (pc' := 40) hF d_JI_bitCount_39 rfl ?_
  refine fx_istore_n (pc' := 41) hF (lv' := [(0, .int ((((((x0 - (((x0.toUInt32 >>> ((1 : Int32).toUInt32 &&& Int32.toUInt32 31)).toInt32) &&& (1431655765 : Int32))) &&& (858993459 : Int32)) + ((((x0 - (((x0.toUInt32 >>> ((1 : Int32).toUInt32 &&& Int32.toUInt32 31)).toInt32) &&& (1431655765 : Int32))).toUInt32 >>> ((2 : Int32).toUInt32 &&& Int32.toUInt32 31)).toInt32) &&& (858993459 : Int32))) + (((((x0 - (((x0.toUInt32 >>> ((1 : Int32).toUInt32 &&& Int32.toUInt32 31)).toInt32) &&& (1431655765 : Int32))) &&& (858993459 : Int32)) + ((((x0 - (((x0.toUInt32 >>> ((1 : Int32).toUInt32 &&& Int32.toUInt32 31)).toInt32) &&& (1431655765 : Int32))).toUInt32 >>> ((2 : Int32).toUInt32 &&& Int32.toUInt32 31)).toInt32) &&& (858993459 : Int32))).toUInt32 >>> ((4 : Int32).toUInt32 &&& Int32.toUInt32 31)).toInt32)) &&& (252645135 : Int32)) + (((((((x0 - (((x0.toUInt32 >>> ((1 : Int32).toUInt32 &&& Int32.toUInt32 31)).toInt32) &&& (1431655765 : Int32))) &&& (858993459 : Int32)) + ((((x0 - (((x0.toUInt32 >>> ((1 : Int32).toUInt32 &&& Int32.toUInt32 31)).toInt32) &&& (1431655765 : Int32))).toUInt32 >>> ((2 : Int32).toUInt32 &&& Int32.toUInt32 31)).toInt32) &&& (858993459 : Int32))) + (((((x0 - (((x0.toUInt32 >>> ((1 : Int32).toUInt32 &&& Int32.toUInt32 31)).toInt32) &&& (1431655765 : Int32))) &&& (858993459 : Int32)) + ((((x0 - (((x0.toUInt32 >>> ((1 : Int32).toUInt32 &&& Int32.toUInt32 31)).toInt32) &&& (1431655765 : Int32))).toUInt32 >>> ((2 : Int32).toUInt32 &&& Int32.toUInt32 31)).toInt32) &&& (858993459 : Int32))).toUInt32 >>> ((4 : Int32).toUInt32 &&& Int32.toUInt32 31)).toInt32)) &&& (252645135 : Int32)).toUInt32 >>> ((8 : Int32).toUInt32 &&& Int32.toUInt32 31)).toInt32)))]) d_JI_bitCount_40 rfl (by decide) rfl rfl ?_
  refine fx_iload_n (pc' := 42) hF d_JI_bitCount_41 rfl 0 rfl rfl ?_
  refine fx_iload_n (pc' := 43) hF d_JI_bitCount_42 rfl 0 rfl rfl ?_
  refine fx_bipush (pc' := 45) hF (v := (16 : Int32)) d_JI_bitCount_43 rfl rfl ?_
  refine fx_iushr (pc' := 46) hF d_JI_bitCount_45 rfl ?_
  refine fx_iadd (pc' := 47) hF d_JI_bitCount_46 rfl ?_
  refine fx_istore_n (pc' := 48) hF (lv' := [(0, .int (((((((x0 - (((x0.toUInt32 >>> ((1 : Int32).toUInt32 &&& Int32.toUInt32 31)).toInt32) &&& (1431655765 : Int32))) &&& (858993459 : Int32)) + ((((x0 - (((x0.toUInt32 >>> ((1 : Int32).toUInt32 &&& Int32.toUInt32 31)).toInt32) &&& (1431655765 : Int32))).toUInt32 >>> ((2 : Int32).toUInt32 &&& Int32.toUInt32 31)).toInt32) &&& (858993459 : Int32))) + (((((x0 - (((x0.toUInt32 >>> ((1 : Int32).toUInt32 &&& Int32.toUInt32 31)).toInt32) &&& (1431655765 : Int32))) &&& (858993459 : Int32)) + ((((x0 - (((x0.toUInt32 >>> ((1 : Int32).toUInt32 &&& Int32.toUInt32 31)).toInt32) &&& (1431655765 : Int32))).toUInt32 >>> ((2 : Int32).toUInt32 &&& Int32.toUInt32 31)).toInt32) &&& (858993459 : Int32))).toUInt32 >>> ((4 : Int32).toUInt32 &&& Int32.toUInt32 31)).toInt32)) &&& (252645135 : Int32)) + (((((((x0 - (((x0.toUInt32 >>> ((1 : Int32).toUInt32 &&& Int32.toUInt32 31)).toInt32) &&& (1431655765 : Int32))) &&& (858993459 : Int32)) + ((((x0 - (((x0.toUInt32 >>> ((1 : Int32).toUInt32 &&& Int32.toUInt32 31)).toInt32) &&& (1431655765 : Int32))).toUInt32 >>> ((2 : Int32).toUInt32 &&& Int32.toUInt32 31)).toInt32) &&& (858993459 : Int32))) + (((((x0 - (((x0.toUInt32 >>> ((1 : Int32).toUInt32 &&& Int32.toUInt32 31)).toInt32) &&& (1431655765 : Int32))) &&& (858993459 : Int32)) + ((((x0 - (((x0.toUInt32 >>> ((1 : Int32).toUInt32 &&& Int32.toUInt32 31)).toInt32) &&& (1431655765 : Int32))).toUInt32 >>> ((2 : Int32).toUInt32 &&& Int32.toUInt32 31)).toInt32) &&& (858993459 : Int32))).toUInt32 >>> ((4 : Int32).toUInt32 &&& Int32.toUInt32 31)).toInt32)) &&& (252645135 : Int32)).toUInt32 >>> ((8 : Int32).toUInt32 &&& Int32.toUInt32 31)).toInt32)) + ((((((((x0 - (((x0.toUInt32 >>> ((1 : Int32).toUInt32 &&& Int32.toUInt32 31)).toInt32) &&& (1431655765 : Int32))) &&& (858993459 : Int32)) + ((((x0 - (((x0.toUInt32 >>> ((1 : Int32).toUInt32 &&& Int32.toUInt32 31)).toInt32) &&& (1431655765 : Int32))).toUInt32 >>> ((2 : Int32).toUInt32 &&& Int32.toUInt32 31)).toInt32) &&& (858993459 : Int32))) + (((((x0 - (((x0.toUInt32 >>> ((1 : Int32).toUInt32 &&& Int32.toUInt32 31)).toInt32) &&& (1431655765 : Int32))) &&& (858993459 : Int32)) + ((((x0 - (((x0.toUInt32 >>> ((1 : Int32).toUInt32 &&& Int32.toUInt32 31)).toInt32) &&& (1431655765 : Int32))).toUInt32 >>> ((2 : Int32).toUInt32 &&& Int32.toUInt32 31)).toInt32) &&& (858993459 : Int32))).toUInt32 >>> ((4 : Int32).toUInt32 &&& Int32.toUInt32 31)).toInt32)) &&& (252645135 : Int32)) + (((((((x0 - (((x0.toUInt32 >>> ((1 : Int32).toUInt32 &&& Int32.toUInt32 31)).toInt32) &&& (1431655765 : Int32))) &&& (858993459 : Int32)) + ((((x0 - (((x0.toUInt32 >>> ((1 : Int32).toUInt32 &&& Int32.toUInt32 31)).toInt32) &&& (1431655765 : Int32))).toUInt32 >>> ((2 : Int32).toUInt32 &&& Int32.toUInt32 31)).toInt32) &&& (858993459 : Int32))) + (((((x0 - (((x0.toUInt32 >>> ((1 : Int32).toUInt32 &&& Int32.toUInt32 31)).toInt32) &&& (1431655765 : Int32))) &&& (858993459 : Int32)) + ((((x0 - (((x0.toUInt32 >>> ((1 : Int32).toUInt32 &&& Int32.toUInt32 31)).toInt32) &&& (1431655765 : Int32))).toUInt32 >>> ((2 : Int32).toUInt32 &&& Int32.toUInt32 31)).toInt32) &&& (858993459 : Int32))).toUInt32 >>> ((4 : Int32).toUInt32 &&& Int32.toUInt32 31)).toInt32)) &&& (252645135 : Int32)).toUInt32 >>> ((8 : Int32).toUInt32 &&& Int32.toUInt32 31)).toInt32)).toUInt32 >>> ((16 : Int32).toUInt32 &&& Int32.toUInt32 31)).toInt32)))]) d_JI_bitCount_47 rfl (by decide) rfl rfl ?_
  refine fx_iload_n (pc' := 49) hF d_JI_bitCount_48 rfl 0 rfl rfl ?_
  refine fx_bipush (pc' := 51) hF (v := (63 : Int32)) d_JI_bitCount_49 rfl rfl ?_
  refine fx_iand (pc' := 52) hF d_JI_bitCount_51 rfl ?_
  exact he I _ _ rfl _ d_JI_bitCount_52 h
