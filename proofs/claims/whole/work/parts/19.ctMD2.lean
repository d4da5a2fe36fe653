set_option maxHeartbeats 4000000 in
set_option maxRecDepth 100000 in
theorem ct_MD_ackCount (l : Launch) (D : va_G) (aC : Nat → ClassId) (g : Nat → Nat) (n : Nat) (K : Nat → Nat × Nat) (I : Nat → Nat → Int32) (k0 : Nat) (x1 : Int32) (Rr : Int32 × (Nat → Nat → Int32)) (hn : ∀ k, (K k).1 < 99 → k < n) (hk0 : (K k0).1 = 6) (h : fn_MD_ackCount K I k0 x1 = some Rr) : fw_Mi l y_MD_ackCount w_MD_ackCount r_MD_ackCount D aC g n K I [.ref (g k0), .int x1] Rr := by
  refine fw_ofGi (cc := b_MD_ackCount) (maxL := 4) (ws' := fw_ws) (by decide +kernel) hn (Nat.le_of_ble_eq_true rfl) rfl ?_
  intro p e s m args below meth c A Q hC hN hA he
  have hF := hC.1
  have hw : ∀ w ∈ fw_ws, w.before args s = true := fun w hw => hF.2.2.2.2 w (List.mem_cons_of_mem _ hw)
  unfold fn_MD_ackCount at h
  have B4 : ∀ (f : Nat) (I : Nat → Nat → Int32) (x1 : Int32) (x2 : Int32) (x3 : Int32), fn_MD_ackCount_4 K f I k0 x1 x2 x3 = some Rr → fw_G p l e r_MD_ackCount s m args below meth c 0 0 Q 4 D aC A g n K I 4 [(0, .ref (g k0)), (1, .int x1), (2, .int x2), (3, .int x3)] [] := by
    intro f
    induction f with
    | zero =>
      intro I x1 x2 x3 h
      rw [fn_MD_ackCount_4] at h
      cases h
    | succ f ih =>
      intro I x1 x2 x3 h
      rw [fn_MD_ackCount_4] at h
      refine fx_iload_n (pc' := 5) hF d_MD_ackCount_4 rfl 3 rfl rfl ?_
      refine fx_aload_n (pc' := 6) hF d_MD_ackCount_5 rfl 0 rfl rfl ?_
      refine fx_geti (pc' := 9) hC hk0 (by decide) rfl iw_MD 1 (by decide) (by decide) rfl (hw _ wq_3_117) rfl d_MD_ackCount_6 rfl ?_
      refine fx_icmp_ge hF (tgt := 40) (pc' := 12) d_MD_ackCount_9 rfl rfl (fun q1 => ?_) (fun q1 => ?_)
      · rw [if_pos q1] at h
        refine fx_iload_n (pc' := 41) hF d_MD_ackCount_40 rfl 2 rfl rfl ?_
        exact he I _ _ rfl _ d_MD_ackCount_41 h
      · rw [if_neg q1] at h
        refine fx_iload_n (pc' := 13) hF d_MD_ackCount_12 rfl 2 rfl rfl ?_
        refine fx_aload_n (pc' := 14) hF d_MD_ackCount_13 rfl 0 rfl rfl ?_
        obtain ⟨a2, na2, ea2, ka2, h⟩ := fw_ld_some h
        refine fx_getr (pc' := 17) hC hk0 (by decide) rfl iw_MD 18 (by decide) (by decide) rfl na2 ea2 (hw _ wq_3_134) rfl d_MD_ackCount_14 rfl ?_
        refine fx_bipush (pc' := 19) hF (v := (20 : Int32)) d_MD_ackCount_17 rfl rfl ?_
        refine fx_iload_n (pc' := 20) hF d_MD_ackCount_19 rfl 3 rfl rfl ?_
        refine fx_imul (pc' := 21) hF d_MD_ackCount_20 rfl ?_
        refine fx_iload_n (pc' := 22) hF d_MD_ackCount_21 rfl 1 rfl rfl ?_
        refine fx_iadd (pc' := 23) hF d_MD_ackCount_22 rfl ?_
        obtain ⟨q3, h⟩ := fw_gd_some h
        refine fx_zald (pc' := 24) hC ka2 q3 d_MD_ackCount_23 rfl ?_
        refine fx_if_eq hF (tgt := 31) (pc' := 27) d_MD_ackCount_24 rfl rfl (fun q4 => ?_) (fun q4 => ?_)
        · rw [if_pos q4] at h
          refine fx_iconst (pc' := 32) hF (v := (0 : Int32)) d_MD_ackCount_31 rfl rfl ?_
          refine fx_iadd (pc' := 33) hF d_MD_ackCount_32 rfl ?_
          refine fx_istore_n (pc' := 34) hF (lv' := [(2, .int (x2 + (0 : Int32))), (0, .ref (g k0)), (1, .int x1), (3, .int x3)]) d_MD_ackCount_33 rfl (by decide) rfl rfl ?_
          refine fx_iinc (pc' := 37) hF (v := x3 + 1) (lv' := [(3, .int (x3 + 1)), (2, .int (x2 + (0 : Int32))), (0, .ref (g k0)), (1, .int x1)]) d_MD_ackCount_34 3 rfl rfl (by decide) rfl rfl ?_
          refine fx_goto hF (tgt := 4) d_MD_ackCount_37 rfl ?_
          refine fx_lv [2, 3, 1, 0] rfl ?_
          exact ih I x1 (x2 + (0 : Int32)) (x3 + 1) h
        · rw [if_neg q4] at h
          refine fx_iconst (pc' := 28) hF (v := (1 : Int32)) d_MD_ackCount_27 rfl rfl ?_
          refine fx_goto hF (tgt := 32) d_MD_ackCount_28 rfl ?_
          refine fx_iadd (pc' := 33) hF d_MD_ackCount_32 rfl ?_
          refine fx_istore_n (pc' := 34) hF (lv' := [(2, .int (x2 + (1 : Int32))), (0, .ref (g k0)), (1, .int x1), (3, .int x3)]) d_MD_ackCount_33 rfl (by decide) rfl rfl ?_
          refine fx_iinc (pc' := 37) hF (v := x3 + 1) (lv' := [(3, .int (x3 + 1)), (2, .int (x2 + (1 : Int32))), (0, .ref (g k0)), (1, .int x1)]) d_MD_ackCount_34 3 rfl rfl (by decide) rfl rfl ?_
          refine fx_goto hF (tgt := 4) d_MD_ackCount_37 rfl ?_
          refine fx_lv [2, 3, 1, 0] rfl ?_
          exact ih I x1 (x2 + (1 : Int32)) (x3 + 1) h
  change fw_G p l e r_MD_ackCount s m args below meth c 0 0 Q 4 D aC A g n K I 0 [(0, .ref (g k0)), (1, .int x1)] []
  refine fx_iconst (pc' := 1) hF (v := (0 : Int32)) d_MD_ackCount_0 rfl rfl ?_
  refine fx_istore_n (pc' := 2) hF (lv' := [(2, .int (0 : Int32)), (0, .ref (g k0)), (1, .int x1)]) d_MD_ackCount_1 rfl (by decide) rfl rfl ?_
  refine fx_iconst (pc' := 3) hF (v := (0 : Int32)) d_MD_ackCount_2 rfl rfl ?_
  refine fx_istore_n (pc' := 4) hF (lv' := [(3, .int (0 : Int32)), (2, .int (0 : Int32)), (0, .ref (g k0)), (1, .int x1)]) d_MD_ackCount_3 rfl (by decide) rfl rfl ?_
  refine fx_lv [2, 3, 1, 0] rfl ?_
  exact B4 200 I x1 (0 : Int32) (0 : Int32) h
set_option maxHeartbeats 4000000 in
set_option maxRecDepth 100000 in
theorem ct_MD_hears (l : Launch) (D : va_G) (aC : Nat → ClassId) (g : Nat → Nat) (n : Nat) (K : Nat → Nat × Nat) (I : Nat → Nat → Int32) (k0 : Nat) (x1 : Int32) (x2 : Int32) (x3 : Int32) (Rr : Nat → Nat → Int32) (hn : ∀ k, (K k).1 < 99 → k < n) (hk0 : (K k0).1 = 6) (h : fn_MD_hears K I k0 x1 x2 x3 = some Rr) : fw_Mv l y_MD_hears w_MD_hears r_MD_hears D aC g n K I [.ref (g k0), .int x1, .int x2, .int x3] Rr := by
  refine fw_ofGv (cc := b_MD_hears) (maxL := 6) (ws' := fw_ws) (by decide +kernel) hn (Nat.le_of_ble_eq_true rfl) rfl ?_
  intro p e s m args below meth c A Q hC hN hA he
  have hF := hC.1
  have hw : ∀ w ∈ fw_ws, w.before args s = true := fun w hw => hF.2.2.2.2 w (List.mem_cons_of_mem _ hw)
  unfold fn_MD_hears at h
  have B42 : ∀ (f : Nat) (I : Nat → Nat → Int32) (x4 : Int32) (x5 : Int32), fn_MD_hears_42 K f I k0 x4 x5 = some Rr → fw_G p l e r_MD_hears s m args below meth c 0 0 Q 6 D aC A g n K I 42 [(0, .ref (g k0)), (4, .int x4), (5, .int x5)] [] := by
    intro f
    induction f with
    | zero =>
      intro I x4 x5 h
      rw [fn_MD_hears_42] at h
      cases h
    | succ f ih =>
      intro I x4 x5 h
      rw [fn_MD_hears_42] at h
      refine fx_iload (pc' := 44) hF d_MD_hears_42 2 rfl rfl ?_
      refine fx_bipush (pc' := 46) hF (v := (20 : Int32)) d_MD_hears_44 rfl rfl ?_
      refine fx_icmp_ge hF (tgt := 133) (pc' := 49) d_MD_hears_46 rfl rfl (fun q7 => ?_) (fun q7 => ?_)
      · rw [if_pos q7] at h
        exact he I _ _ d_MD_hears_133 h
      · rw [if_neg q7] at h
        refine fx_iload (pc' := 51) hF d_MD_hears_49 1 rfl rfl ?_
        refine fx_if_eq hF (tgt := 133) (pc' := 54) d_MD_hears_51 rfl rfl (fun q8 => ?_) (fun q8 => ?_)
        · rw [if_pos q8] at h
          exact he I _ _ d_MD_hears_133 h
        · rw [if_neg q8] at h
          refine fx_aload_n (pc' := 55) hF d_MD_hears_54 rfl 0 rfl rfl ?_
          refine fx_geti (pc' := 58) hC hk0 (by decide) rfl iw_MD 16 (by decide) (by decide) rfl (hw _ wq_3_132) rfl d_MD_hears_55 rfl ?_
          refine fx_iconst (pc' := 59) hF (v := (1 : Int32)) d_MD_hears_58 rfl rfl ?_
          refine fx_iadd (pc' := 60) hF d_MD_hears_59 rfl ?_
          refine fx_aload_n (pc' := 61) hF d_MD_hears_60 rfl 0 rfl rfl ?_
          refine fx_geti (pc' := 64) hC hk0 (by decide) rfl iw_MD 15 (by decide) (by decide) rfl (hw _ wq_3_131) rfl d_MD_hears_61 rfl ?_
          refine fx_icmp_ge hF (tgt := 105) (pc' := 67) d_MD_hears_64 rfl rfl (fun q9 => ?_) (fun q9 => ?_)
          · rw [if_pos q9] at h
            refine fx_iconst (pc' := 106) hF (v := (0 : Int32)) d_MD_hears_105 rfl rfl ?_
            refine fx_istore (pc' := 108) hF (lv' := [(4, .int (0 : Int32)), (0, .ref (g k0)), (5, .int x5)]) d_MD_hears_106 (by decide) rfl rfl ?_
            refine fx_aload_n (pc' := 109) hF d_MD_hears_108 rfl 1 rfl rfl ?_
            refine fx_dup (pc' := 110) hF d_MD_hears_109 rfl rfl ?_
            refine fx_geti (pc' := 113) hC hk0 (by decide) rfl iw_MD 16 (by decide) (by decide) rfl (hw _ wq_3_132) rfl d_MD_hears_110 rfl ?_
            refine fx_iload (pc' := 115) hF d_MD_hears_113 0 rfl rfl ?_
            refine fx_if_eq hF (tgt := 122) (pc' := 118) d_MD_hears_115 rfl rfl (fun _ => ?_) (fun q => absurd q (by decide))
            refine fx_iconst (pc' := 123) hF (v := (0 : Int32)) d_MD_hears_122 rfl rfl ?_
            refine fx_iadd (pc' := 124) hF d_MD_hears_123 rfl ?_
            obtain ⟨I10, eI10, h⟩ := fw_let_some h
            refine fx_puti (pc' := 127) hC hk0 (by decide) rfl iw_MD 16 (by decide) (by decide) rfl ty_MD tyok_MD nn_MD rfl eI10 (tyok_MD 16 (by decide)) rfl rfl (hw _ wq_3_132) rfl d_MD_hears_124 rfl ?_
            refine fx_iinc (pc' := 130) hF (v := x5 + 1) (lv' := [(5, .int (x5 + 1)), (4, .int (0 : Int32)), (0, .ref (g k0))]) d_MD_hears_127 2 rfl rfl (by decide) rfl rfl ?_
            refine fx_goto hF (tgt := 42) d_MD_hears_130 rfl ?_
            refine fx_lv [2, 1, 0] rfl ?_
            exact ih I10 (0 : Int32) (x5 + 1) h
          · rw [if_neg q9] at h
            refine fx_aload_n (pc' := 68) hF d_MD_hears_67 rfl 0 rfl rfl ?_
            refine fx_aload_n (pc' := 69) hF d_MD_hears_68 rfl 0 rfl rfl ?_
            refine fx_geti (pc' := 72) hC hk0 (by decide) rfl iw_MD 16 (by decide) (by decide) rfl (hw _ wq_3_132) rfl d_MD_hears_69 rfl ?_
            refine fx_iconst (pc' := 73) hF (v := (1 : Int32)) d_MD_hears_72 rfl rfl ?_
            refine fx_iadd (pc' := 74) hF d_MD_hears_73 rfl ?_
            refine fx_aload_n (pc' := 75) hF d_MD_hears_74 rfl 0 rfl rfl ?_
            refine fx_geti (pc' := 78) hC hk0 (by decide) rfl iw_MD 15 (by decide) (by decide) rfl (hw _ wq_3_131) rfl d_MD_hears_75 rfl ?_
            refine fx_icmp_ge hF (tgt := 90) (pc' := 81) d_MD_hears_78 rfl rfl (fun q11 => ?_) (fun q11 => ?_)
            · rw [if_pos q11] at h
              refine fx_iconst (pc' := 91) hF (v := (0 : Int32)) d_MD_hears_90 rfl rfl ?_
              obtain ⟨r14, I12, c13, h⟩ := fw_bd_some h
              refine fx_callVi (pc' := 94) (As := [.int (0 : Int32)]) (st := []) hC hN hA hk0 (by decide) rfl (ct_MD_ackCount l D aC g n K I k0 (0 : Int32) (r14, I12) hn hk0 c13) (cwV 1 hF.2.2.2.2 (fw_gV wq_3_224 wq_3_226 wsel_MD_ackCount wq_1_8 wq_3_227) rfl rfl rfl ⟨rfl, by decide +kernel, by decide +kernel, by decide +kernel⟩ ⟨Nat.le_of_ble_eq_true rfl, Nat.le_of_ble_eq_true rfl⟩) ⟨Nat.zero_le _, Nat.zero_le _⟩ rfl rfl (Nat.le_of_ble_eq_true rfl) d_MD_hears_91 rfl ?_
              refine fx_aload_n (pc' := 95) hF d_MD_hears_94 rfl 0 rfl rfl ?_
              refine fx_geti (pc' := 98) hC hk0 (by decide) rfl iw_MD 3 (by decide) (by decide) rfl (hw _ wq_3_119) rfl d_MD_hears_95 rfl ?_
              refine fx_icmp_lt hF (tgt := 105) (pc' := 101) d_MD_hears_98 rfl rfl (fun q15 => ?_) (fun q15 => ?_)
              · rw [if_pos q15] at h
                refine fx_iconst (pc' := 106) hF (v := (0 : Int32)) d_MD_hears_105 rfl rfl ?_
                refine fx_istore (pc' := 108) hF (lv' := [(4, .int (0 : Int32)), (0, .ref (g k0)), (5, .int x5)]) d_MD_hears_106 (by decide) rfl rfl ?_
                refine fx_aload_n (pc' := 109) hF d_MD_hears_108 rfl 1 rfl rfl ?_
                refine fx_dup (pc' := 110) hF d_MD_hears_109 rfl rfl ?_
                refine fx_geti (pc' := 113) hC hk0 (by decide) rfl iw_MD 16 (by decide) (by decide) rfl (hw _ wq_3_132) rfl d_MD_hears_110 rfl ?_
                refine fx_iload (pc' := 115) hF d_MD_hears_113 0 rfl rfl ?_
                refine fx_if_eq hF (tgt := 122) (pc' := 118) d_MD_hears_115 rfl rfl (fun _ => ?_) (fun q => absurd q (by decide))
                refine fx_iconst (pc' := 123) hF (v := (0 : Int32)) d_MD_hears_122 rfl rfl ?_
                refine fx_iadd (pc' := 124) hF d_MD_hears_123 rfl ?_
                obtain ⟨I16, eI16, h⟩ := fw_let_some h
                refine fx_puti (pc' := 127) hC hk0 (by decide) rfl iw_MD 16 (by decide) (by decide) rfl ty_MD tyok_MD nn_MD rfl eI16 (tyok_MD 16 (by decide)) rfl rfl (hw _ wq_3_132) rfl d_MD_hears_124 rfl ?_
                refine fx_iinc (pc' := 130) hF (v := x5 + 1) (lv' := [(5, .int (x5 + 1)), (4, .int (0 : Int32)), (0, .ref (g k0))]) d_MD_hears_127 2 rfl rfl (by decide) rfl rfl ?_
                refine fx_goto hF (tgt := 42) d_MD_hears_130 rfl ?_
                refine fx_lv [2, 1, 0] rfl ?_
                exact ih I16 (0 : Int32) (x5 + 1) h
              · rw [if_neg q15] at h
                refine fx_iconst (pc' := 102) hF (v := (1 : Int32)) d_MD_hears_101 rfl rfl ?_
                refine fx_goto hF (tgt := 106) d_MD_hears_102 rfl ?_
                refine fx_istore (pc' := 108) hF (lv' := [(4, .int (1 : Int32)), (0, .ref (g k0)), (5, .int x5)]) d_MD_hears_106 (by decide) rfl rfl ?_
                refine fx_aload_n (pc' := 109) hF d_MD_hears_108 rfl 1 rfl rfl ?_
                refine fx_dup (pc' := 110) hF d_MD_hears_109 rfl rfl ?_
                refine fx_geti (pc' := 113) hC hk0 (by decide) rfl iw_MD 16 (by decide) (by decide) rfl (hw _ wq_3_132) rfl d_MD_hears_110 rfl ?_
                refine fx_iload (pc' := 115) hF d_MD_hears_113 0 rfl rfl ?_
                refine fx_if_eq hF (tgt := 122) (pc' := 118) d_MD_hears_115 rfl rfl (fun q => absurd q (by decide)) (fun _ => ?_)
                refine fx_iconst (pc' := 119) hF (v := (1 : Int32)) d_MD_hears_118 rfl rfl ?_
                refine fx_goto hF (tgt := 123) d_MD_hears_119 rfl ?_
                refine fx_iadd (pc' := 124) hF d_MD_hears_123 rfl ?_
                obtain ⟨I17, eI17, h⟩ := fw_let_some h
                refine fx_puti (pc' := 127) hC hk0 (by decide) rfl iw_MD 16 (by decide) (by decide) rfl ty_MD tyok_MD nn_MD rfl eI17 (tyok_MD 16 (by decide)) rfl rfl (hw _ wq_3_132) rfl d_MD_hears_124 rfl ?_
                refine fx_iinc (pc' := 130) hF (v := x5 + 1) (lv' := [(5, .int (x5 + 1)), (4, .int (1 : Int32)), (0, .ref (g k0))]) d_MD_hears_127 2 rfl rfl (by decide) rfl rfl ?_
                refine fx_goto hF (tgt := 42) d_MD_hears_130 rfl ?_
                refine fx_lv [2, 1, 0] rfl ?_
                exact ih I17 (1 : Int32) (x5 + 1) h
            · rw [if_neg q11] at h
              refine fx_aload_n (pc' := 82) hF d_MD_hears_81 rfl 0 rfl rfl ?_
              refine fx_geti (pc' := 85) hC hk0 (by decide) rfl iw_MD 16 (by decide) (by decide) rfl (hw _ wq_3_132) rfl d_MD_hears_82 rfl ?_
              refine fx_iconst (pc' := 86) hF (v := (1 : Int32)) d_MD_hears_85 rfl rfl ?_
              refine fx_iadd (pc' := 87) hF d_MD_hears_86 rfl ?_
              refine fx_goto hF (tgt := 91) d_MD_hears_87 rfl ?_
              obtain ⟨r20, I18, c19, h⟩ := fw_bd_some h
              refine fx_callVi (pc' := 94) (As := [.int ((I k0 16) + (1 : Int32))]) (st := []) hC hN hA hk0 (by decide) rfl (ct_MD_ackCount l D aC g n K I k0 ((I k0 16) + (1 : Int32)) (r20, I18) hn hk0 c19) (cwV 1 hF.2.2.2.2 (fw_gV wq_3_224 wq_3_226 wsel_MD_ackCount wq_1_8 wq_3_227) rfl rfl rfl ⟨rfl, by decide +kernel, by decide +kernel, by decide +kernel⟩ ⟨Nat.le_of_ble_eq_true rfl, Nat.le_of_ble_eq_true rfl⟩) ⟨Nat.zero_le _, Nat.zero_le _⟩ rfl rfl (Nat.le_of_ble_eq_true rfl) d_MD_hears_91 rfl ?_
              refine fx_aload_n (pc' := 95) hF d_MD_hears_94 rfl 0 rfl rfl ?_
              refine fx_geti (pc' := 98) hC hk0 (by decide) rfl iw_MD 3 (by decide) (by decide) rfl (hw _ wq_3_119) rfl d_MD_hears_95 rfl ?_
              refine fx_icmp_lt hF (tgt := 105) (pc' := 101) d_MD_hears_98 rfl rfl (fun q21 => ?_) (fun q21 => ?_)
              · rw [if_pos q21] at h
                refine fx_iconst (pc' := 106) hF (v := (0 : Int32)) d_MD_hears_105 rfl rfl ?_
                refine fx_istore (pc' := 108) hF (lv' := [(4, .int (0 : Int32)), (0, .ref (g k0)), (5, .int x5)]) d_MD_hears_106 (by decide) rfl rfl ?_
                refine fx_aload_n (pc' := 109) hF d_MD_hears_108 rfl 1 rfl rfl ?_
                refine fx_dup (pc' := 110) hF d_MD_hears_109 rfl rfl ?_
                refine fx_geti (pc' := 113) hC hk0 (by decide) rfl iw_MD 16 (by decide) (by decide) rfl (hw _ wq_3_132) rfl d_MD_hears_110 rfl ?_
                refine fx_iload (pc' := 115) hF d_MD_hears_113 0 rfl rfl ?_
                refine fx_if_eq hF (tgt := 122) (pc' := 118) d_MD_hears_115 rfl rfl (fun _ => ?_) (fun q => absurd q (by decide))
                refine fx_iconst (pc' := 123) hF (v := (0 : Int32)) d_MD_hears_122 rfl rfl ?_
                refine fx_iadd (pc' := 124) hF d_MD_hears_123 rfl ?_
                obtain ⟨I22, eI22, h⟩ := fw_let_some h
                refine fx_puti (pc' := 127) hC hk0 (by decide) rfl iw_MD 16 (by decide) (by decide) rfl ty_MD tyok_MD nn_MD rfl eI22 (tyok_MD 16 (by decide)) rfl rfl (hw _ wq_3_132) rfl d_MD_hears_124 rfl ?_
                refine fx_iinc (pc' := 130) hF (v := x5 + 1) (lv' := [(5, .int (x5 + 1)), (4, .int (0 : Int32)), (0, .ref (g k0))]) d_MD_hears_127 2 rfl rfl (by decide) rfl rfl ?_
                refine fx_goto hF (tgt := 42) d_MD_hears_130 rfl ?_
                refine fx_lv [2, 1, 0] rfl ?_
                exact ih I22 (0 : Int32) (x5 + 1) h
              · rw [if_neg q21] at h
                refine fx_iconst (pc' := 102) hF (v := (1 : Int32)) d_MD_hears_101 rfl rfl ?_
                refine fx_goto hF (tgt := 106) d_MD_hears_102 rfl ?_
                refine fx_istore (pc' := 108) hF (lv' := [(4, .int (1 : Int32)), (0, .ref (g k0)), (5, .int x5)]) d_MD_hears_106 (by decide) rfl rfl ?_
                refine fx_aload_n (pc' := 109) hF d_MD_hears_108 rfl 1 rfl rfl ?_
                refine fx_dup (pc' := 110) hF d_MD_hears_109 rfl rfl ?_
                refine fx_geti (pc' := 113) hC hk0 (by decide) rfl iw_MD 16 (by decide) (by decide) rfl (hw _ wq_3_132) rfl d_MD_hears_110 rfl ?_
                refine fx_iload (pc' := 115) hF d_MD_hears_113 0 rfl rfl ?_
                refine fx_if_eq hF (tgt := 122) (pc' := 118) d_MD_hears_115 rfl rfl (fun q => absurd q (by decide)) (fun _ => ?_)
                refine fx_iconst (pc' := 119) hF (v := (1 : Int32)) d_MD_hears_118 rfl rfl ?_
                refine fx_goto hF (tgt := 123) d_MD_hears_119 rfl ?_
                refine fx_iadd (pc' := 124) hF d_MD_hears_123 rfl ?_
                obtain ⟨I23, eI23, h⟩ := fw_let_some h
                refine fx_puti (pc' := 127) hC hk0 (by decide) rfl iw_MD 16 (by decide) (by decide) rfl ty_MD tyok_MD nn_MD rfl eI23 (tyok_MD 16 (by decide)) rfl rfl (hw _ wq_3_132) rfl d_MD_hears_124 rfl ?_
                refine fx_iinc (pc' := 130) hF (v := x5 + 1) (lv' := [(5, .int (x5 + 1)), (4, .int (1 : Int32)), (0, .ref (g k0))]) d_MD_hears_127 2 rfl rfl (by decide) rfl rfl ?_
                refine fx_goto hF (tgt := 42) d_MD_hears_130 rfl ?_
                refine fx_lv [2, 1, 0] rfl ?_
                exact ih I23 (1 : Int32) (x5 + 1) h
  have B18 : ∀ (I : Nat → Nat → Int32) (x1 : Int32) (x2 : Int32) (x3 : Int32), fn_MD_hears_18 K I k0 x1 x2 x3 = some Rr → fw_G p l e r_MD_hears s m args below meth c 0 0 Q 6 D aC A g n K I 18 [(0, .ref (g k0)), (1, .int x1), (2, .int x2), (3, .int x3)] [] := by
    intro I x1 x2 x3 h
    unfold fn_MD_hears_18 at h
    refine fx_iload_n (pc' := 19) hF d_MD_hears_18 rfl 1 rfl rfl ?_
    refine fx_iconst (pc' := 20) hF (v := (3 : Int32)) d_MD_hears_19 rfl rfl ?_
    refine fx_icmp_eq hF (tgt := 24) (pc' := 23) d_MD_hears_20 rfl rfl (fun q3 => ?_) (fun q3 => ?_)
    · rw [if_pos q3] at h
      refine fx_aload_n (pc' := 25) hF d_MD_hears_24 rfl 0 rfl rfl ?_
      obtain ⟨a4, na4, ea4, ka4, h⟩ := fw_ld_some h
      refine fx_getr (pc' := 28) hC hk0 (by decide) rfl iw_MD 18 (by decide) (by decide) rfl na4 ea4 (hw _ wq_3_134) rfl d_MD_hears_25 rfl ?_
      refine fx_bipush (pc' := 30) hF (v := (20 : Int32)) d_MD_hears_28 rfl rfl ?_
      refine fx_iload_n (pc' := 31) hF d_MD_hears_30 rfl 2 rfl rfl ?_
      refine fx_imul (pc' := 32) hF d_MD_hears_31 rfl ?_
      refine fx_iload_n (pc' := 33) hF d_MD_hears_32 rfl 3 rfl rfl ?_
      refine fx_iadd (pc' := 34) hF d_MD_hears_33 rfl ?_
      refine fx_iconst (pc' := 35) hF (v := (1 : Int32)) d_MD_hears_34 rfl rfl ?_
      obtain ⟨q5, h⟩ := fw_gd_some h
      obtain ⟨I6, eI6, h⟩ := fw_let_some h
      refine fx_zast (pc' := 36) hC ka4 q5 rfl eI6 d_MD_hears_35 rfl ?_
      refine fx_iconst (pc' := 37) hF (v := (1 : Int32)) d_MD_hears_36 rfl rfl ?_
      refine fx_istore (pc' := 39) hF (lv' := [(4, .int (1 : Int32)), (0, .ref (g k0)), (1, .int x1), (2, .int x2), (3, .int x3)]) d_MD_hears_37 (by decide) rfl rfl ?_
      refine fx_iconst (pc' := 40) hF (v := (0 : Int32)) d_MD_hears_39 rfl rfl ?_
      refine fx_istore (pc' := 42) hF (lv' := [(5, .int (0 : Int32)), (4, .int (1 : Int32)), (0, .ref (g k0)), (1, .int x1), (2, .int x2), (3, .int x3)]) d_MD_hears_40 (by decide) rfl rfl ?_
      refine fx_lv [2, 1, 0] rfl ?_
      exact B42 200 I6 (1 : Int32) (0 : Int32) h
    · rw [if_neg q3] at h
      exact he I _ _ d_MD_hears_23 h
  change fw_G p l e r_MD_hears s m args below meth c 0 0 Q 6 D aC A g n K I 0 [(0, .ref (g k0)), (1, .int x1), (2, .int x2), (3, .int x3)] []
  refine fx_aload_n (pc' := 1) hF d_MD_hears_0 rfl 0 rfl rfl ?_
  refine fx_geti (pc' := 4) hC hk0 (by decide) rfl iw_MD 14 (by decide) (by decide) rfl (hw _ wq_3_130) rfl d_MD_hears_1 rfl ?_
  refine fx_if_eq hF (tgt := 8) (pc' := 7) d_MD_hears_4 rfl rfl (fun q1 => ?_) (fun q1 => ?_)
  · rw [if_pos q1] at h
    refine fx_iload_n (pc' := 9) hF d_MD_hears_8 rfl 1 rfl rfl ?_
    refine fx_iconst (pc' := 10) hF (v := (4 : Int32)) d_MD_hears_9 rfl rfl ?_
    refine fx_icmp_ne hF (tgt := 18) (pc' := 13) d_MD_hears_10 rfl rfl (fun q2 => ?_) (fun q2 => ?_)
    · rw [if_neg q2] at h
      exact B18 I x1 x2 x3 h
    · rw [if_pos q2] at h
      refine fx_aload_n (pc' := 14) hF d_MD_hears_13 rfl 0 rfl rfl ?_
      refine fx_iconst (pc' := 15) hF (v := (1 : Int32)) d_MD_hears_14 rfl rfl ?_
      obtain ⟨I24, eI24, h⟩ := fw_let_some h
      refine fx_puti (pc' := 18) hC hk0 (by decide) rfl iw_MD 14 (by decide) (by decide) rfl ty_MD tyok_MD nn_MD rfl eI24 (tyok_MD 14 (by decide)) rfl rfl (hw _ wq_3_130) rfl d_MD_hears_15 rfl ?_
      exact B18 I24 x1 x2 x3 h
  · rw [if_neg q1] at h
    exact he I _ _ d_MD_hears_7 h
set_option maxHeartbeats 4000000 in
set_option maxRecDepth 100000 in
theorem ct_MD_fence (l : Launch) (D : va_G) (aC : Nat → ClassId) (g : Nat → Nat) (n : Nat) (K : Nat → Nat × Nat) (I : Nat → Nat → Int32) (k0 : Nat) (x1 : Int32) (x2 : Int32) (x3 : Int32) (x4 : Int32) (x5 : Int32) (Rr : Nat → Nat → Int32) (hn : ∀ k, (K k).1 < 99 → k < n) (hk0 : (K k0).1 = 6) (h : fn_MD_fence K I k0 x1 x2 x3 x4 x5 = some Rr) : fw_Mv l y_MD_fence w_MD_fence r_MD_fence D aC g n K I [.ref (g k0), .int x1, .int x2, .int x3, .int x4, .int x5] Rr := by
  refine fw_ofGv (cc := b_MD_fence) (maxL := 6) (ws' := fw_ws) (by decide +kernel) hn (Nat.le_of_ble_eq_true rfl) rfl ?_
  intro p e s m args below meth c A Q hC hN hA he
  have hF := hC.1
  have hw : ∀ w ∈ fw_ws, w.before args s = true := fun w hw => hF.2.2.2.2 w (List.mem_cons_of_mem _ hw)
  unfold fn_MD_fence at h
  change fw_G p l e r_MD_fence s m args below meth c 0 0 Q 6 D aC A g n K I 0 [(0, .ref (g k0)), (1, .int x1), (2, .int x2), (3, .int x3), (4, .int x4), (5, .int x5)] []
  refine fx_aload_n (pc' := 1) hF d_MD_fence_0 rfl 0 rfl rfl ?_
  obtain ⟨a1, na1, ea1, ka1, h⟩ := fw_ld_some h
  refine fx_getr (pc' := 4) hC hk0 (by decide) rfl iw_MD 5 (by decide) (by decide) rfl na1 ea1 (hw _ wq_3_121) rfl d_MD_fence_1 rfl ?_
  refine fx_iload_n (pc' := 5) hF d_MD_fence_4 rfl 3 rfl rfl ?_
  refine fx_iconst (pc' := 6) hF (v := (1 : Int32)) d_MD_fence_5 rfl rfl ?_
  obtain ⟨q2, h⟩ := fw_gd_some h
  obtain ⟨I3, eI3, h⟩ := fw_let_some h
  refine fx_zast (pc' := 7) hC ka1 q2 rfl eI3 d_MD_fence_6 rfl ?_
  refine fx_iload_n (pc' := 8) hF d_MD_fence_7 rfl 1 rfl rfl ?_
  refine fx_iconst (pc' := 9) hF (v := (1 : Int32)) d_MD_fence_8 rfl rfl ?_
  refine fx_icmp_ne hF (tgt := 32) (pc' := 12) d_MD_fence_9 rfl rfl (fun q4 => ?_) (fun q4 => ?_)
  · rw [if_neg q4] at h
    refine fx_aload_n (pc' := 33) hF d_MD_fence_32 rfl 0 rfl rfl ?_
    obtain ⟨a5, na5, ea5, ka5, h⟩ := fw_ld_some h
    refine fx_getr (pc' := 36) hC hk0 (by decide) rfl iw_MD 7 (by decide) (by decide) rfl na5 ea5 (hw _ wq_3_123) rfl d_MD_fence_33 rfl ?_
    refine fx_bipush (pc' := 38) hF (v := (20 : Int32)) d_MD_fence_36 rfl rfl ?_
    refine fx_iload_n (pc' := 39) hF d_MD_fence_38 rfl 3 rfl rfl ?_
    refine fx_imul (pc' := 40) hF d_MD_fence_39 rfl ?_
    refine fx_iload (pc' := 42) hF d_MD_fence_40 4 rfl rfl ?_
    refine fx_iadd (pc' := 43) hF d_MD_fence_42 rfl ?_
    obtain ⟨q6, h⟩ := fw_gd_some h
    refine fx_zald (pc' := 44) hC ka5 q6 d_MD_fence_43 rfl ?_
    refine fx_if_eq hF (tgt := 75) (pc' := 47) d_MD_fence_44 rfl rfl (fun q7 => ?_) (fun q7 => ?_)
    · rw [if_pos q7] at h
      refine fx_aload_n (pc' := 76) hF d_MD_fence_75 rfl 0 rfl rfl ?_
      refine fx_bipush (pc' := 78) hF (v := (7 : Int32)) d_MD_fence_76 rfl rfl ?_
      refine fx_iload_n (pc' := 79) hF d_MD_fence_78 rfl 2 rfl rfl ?_
      refine fx_iload_n (pc' := 80) hF d_MD_fence_79 rfl 3 rfl rfl ?_
      refine fx_iload (pc' := 82) hF d_MD_fence_80 4 rfl rfl ?_
      refine fx_iconst (pc' := 83) hF (v := (0 : Int32)) d_MD_fence_82 rfl rfl ?_
      refine fx_iload (pc' := 85) hF d_MD_fence_83 5 rfl rfl ?_
      refine fx_iconst (pc' := 86) hF (v := (0 : Int32)) d_MD_fence_85 rfl rfl ?_
      obtain ⟨I8, c9, h⟩ := fw_bv_some h
      refine fx_callVv (pc' := 89) (As := [.int (7 : Int32), .int x2, .int x3, .int x4, .int (0 : Int32), .int x5, .int (0 : Int32)]) (st := []) hC hN hA hk0 (by decide) rfl (ct_MD_send l D aC g n K I3 k0 (7 : Int32) x2 x3 x4 (0 : Int32) x5 (0 : Int32) I8 hn hk0 c9) (cwV 7 hF.2.2.2.2 (fw_gV wq_3_212 wq_3_214 wsel_MD_send wq_1_8 wq_3_215) rfl rfl rfl ⟨rfl, by decide +kernel, by decide +kernel, by decide +kernel⟩ ⟨Nat.le_of_ble_eq_true rfl, Nat.le_of_ble_eq_true rfl⟩) ⟨Nat.zero_le _, Nat.zero_le _⟩ rfl rfl (Nat.le_of_ble_eq_true rfl) d_MD_fence_86 rfl ?_
      exact he I8 _ _ d_MD_fence_89 h
    · rw [if_neg q7] at h
      refine fx_aload_n (pc' := 48) hF d_MD_fence_47 rfl 0 rfl rfl ?_
      refine fx_bipush (pc' := 50) hF (v := (6 : Int32)) d_MD_fence_48 rfl rfl ?_
      refine fx_iload_n (pc' := 51) hF d_MD_fence_50 rfl 2 rfl rfl ?_
      refine fx_iload_n (pc' := 52) hF d_MD_fence_51 rfl 3 rfl rfl ?_
      refine fx_iload (pc' := 54) hF d_MD_fence_52 4 rfl rfl ?_
      refine fx_aload_n (pc' := 55) hF d_MD_fence_54 rfl 0 rfl rfl ?_
      obtain ⟨a10, na10, ea10, ka10, h⟩ := fw_ld_some h
      refine fx_getr (pc' := 58) hC hk0 (by decide) rfl iw_MD 8 (by decide) (by decide) rfl na10 ea10 (hw _ wq_3_124) rfl d_MD_fence_55 rfl ?_
      refine fx_bipush (pc' := 60) hF (v := (20 : Int32)) d_MD_fence_58 rfl rfl ?_
      refine fx_iload_n (pc' := 61) hF d_MD_fence_60 rfl 3 rfl rfl ?_
      refine fx_imul (pc' := 62) hF d_MD_fence_61 rfl ?_
      refine fx_iload (pc' := 64) hF d_MD_fence_62 4 rfl rfl ?_
      refine fx_iadd (pc' := 65) hF d_MD_fence_64 rfl ?_
      obtain ⟨q11, h⟩ := fw_gd_some h
      refine fx_iald (pc' := 66) hC ka10 q11 d_MD_fence_65 rfl ?_
      refine fx_iload (pc' := 68) hF d_MD_fence_66 5 rfl rfl ?_
      refine fx_iconst (pc' := 69) hF (v := (0 : Int32)) d_MD_fence_68 rfl rfl ?_
      obtain ⟨I12, c13, h⟩ := fw_bv_some h
      refine fx_callVv (pc' := 72) (As := [.int (6 : Int32), .int x2, .int x3, .int x4, .int (I3 a10 (((20 : Int32) * x3) + x4).toNatClampNeg), .int x5, .int (0 : Int32)]) (st := []) hC hN hA hk0 (by decide) rfl (ct_MD_send l D aC g n K I3 k0 (6 : Int32) x2 x3 x4 (I3 a10 (((20 : Int32) * x3) + x4).toNatClampNeg) x5 (0 : Int32) I12 hn hk0 c13) (cwV 7 hF.2.2.2.2 (fw_gV wq_3_212 wq_3_214 wsel_MD_send wq_1_8 wq_3_215) rfl rfl rfl ⟨rfl, by decide +kernel, by decide +kernel, by decide +kernel⟩ ⟨Nat.le_of_ble_eq_true rfl, Nat.le_of_ble_eq_true rfl⟩) ⟨Nat.zero_le _, Nat.zero_le _⟩ rfl rfl (Nat.le_of_ble_eq_true rfl) d_MD_fence_69 rfl ?_
      refine fx_goto hF (tgt := 89) d_MD_fence_72 rfl ?_
      exact he I12 _ _ d_MD_fence_89 h
  · rw [if_pos q4] at h
    refine fx_aload_n (pc' := 13) hF d_MD_fence_12 rfl 0 rfl rfl ?_
    refine fx_iconst (pc' := 14) hF (v := (5 : Int32)) d_MD_fence_13 rfl rfl ?_
    refine fx_iload_n (pc' := 15) hF d_MD_fence_14 rfl 2 rfl rfl ?_
    refine fx_iload_n (pc' := 16) hF d_MD_fence_15 rfl 3 rfl rfl ?_
    refine fx_iconst (pc' := 17) hF (v := (0 : Int32)) d_MD_fence_16 rfl rfl ?_
    refine fx_aload_n (pc' := 18) hF d_MD_fence_17 rfl 0 rfl rfl ?_
    obtain ⟨a14, na14, ea14, ka14, h⟩ := fw_ld_some h
    refine fx_getr (pc' := 21) hC hk0 (by decide) rfl iw_MD 6 (by decide) (by decide) rfl na14 ea14 (hw _ wq_3_122) rfl d_MD_fence_18 rfl ?_
    refine fx_iload_n (pc' := 22) hF d_MD_fence_21 rfl 3 rfl rfl ?_
    obtain ⟨q15, h⟩ := fw_gd_some h
    refine fx_iald (pc' := 23) hC ka14 q15 d_MD_fence_22 rfl ?_
    refine fx_iload (pc' := 25) hF d_MD_fence_23 5 rfl rfl ?_
    refine fx_iconst (pc' := 26) hF (v := (0 : Int32)) d_MD_fence_25 rfl rfl ?_
    obtain ⟨I16, c17, h⟩ := fw_bv_some h
    refine fx_callVv (pc' := 29) (As := [.int (5 : Int32), .int x2, .int x3, .int (0 : Int32), .int (I3 a14 x3.toNatClampNeg), .int x5, .int (0 : Int32)]) (st := []) hC hN hA hk0 (by decide) rfl (ct_MD_send l D aC g n K I3 k0 (5 : Int32) x2 x3 (0 : Int32) (I3 a14 x3.toNatClampNeg) x5 (0 : Int32) I16 hn hk0 c17) (cwV 7 hF.2.2.2.2 (fw_gV wq_3_212 wq_3_214 wsel_MD_send wq_1_8 wq_3_215) rfl rfl rfl ⟨rfl, by decide +kernel, by decide +kernel, by decide +kernel⟩ ⟨Nat.le_of_ble_eq_true rfl, Nat.le_of_ble_eq_true rfl⟩) ⟨Nat.zero_le _, Nat.zero_le _⟩ rfl rfl (Nat.le_of_ble_eq_true rfl) d_MD_fence_26 rfl ?_
    refine fx_goto hF (tgt := 89) d_MD_fence_29 rfl ?_
    exact he I16 _ _ d_MD_fence_89 h
set_option maxHeartbeats 4000000 in
set_option maxRecDepth 100000 in
theorem ct_MD_keep (l : Launch) (D : va_G) (aC : Nat → ClassId) (g : Nat → Nat) (n : Nat) (K : Nat → Nat × Nat) (I : Nat → Nat → Int32) (k0 : Nat) (x1 : Int32) (x2 : Int32) (x3 : Int32) (x4 : Int32) (x5 : Int32) (x6 : Int32) (Rr : Nat → Nat → Int32) (hn : ∀ k, (K k).1 < 99 → k < n) (hk0 : (K k0).1 = 6) (h : fn_MD_keep K I k0 x1 x2 x3 x4 x5 x6 = some Rr) : fw_Mv l y_MD_keep w_MD_keep r_MD_keep D aC g n K I [.ref (g k0), .int x1, .int x2, .int x3, .int x4, .int x5, .int x6] Rr := by
  refine fw_ofGv (cc := b_MD_keep) (maxL := 7) (ws' := fw_ws) (by decide +kernel) hn (Nat.le_of_ble_eq_true rfl) rfl ?_
  intro p e s m args below meth c A Q hC hN hA he
  have hF := hC.1
  have hw : ∀ w ∈ fw_ws, w.before args s = true := fun w hw => hF.2.2.2.2 w (List.mem_cons_of_mem _ hw)
  unfold fn_MD_keep at h
  have B25 : ∀ (I : Nat → Nat → Int32) (x1 : Int32) (x2 : Int32) (x3 : Int32) (x4 : Int32) (x5 : Int32) (x6 : Int32), fn_MD_keep_25 K I k0 x1 x2 x3 x4 x5 x6 = some Rr → fw_G p l e r_MD_keep s m args below meth c 0 0 Q 7 D aC A g n K I 25 [(0, .ref (g k0)), (1, .int x1), (2, .int x2), (3, .int x3), (4, .int x4), (5, .int x5), (6, .int x6)] [] := by
    intro I x1 x2 x3 x4 x5 x6 h
    unfold fn_MD_keep_25 at h
    refine fx_aload_n (pc' := 26) hF d_MD_keep_25 rfl 0 rfl rfl ?_
    obtain ⟨a2, na2, ea2, ka2, h⟩ := fw_ld_some h
    refine fx_getr (pc' := 29) hC hk0 (by decide) rfl iw_MD 7 (by decide) (by decide) rfl na2 ea2 (hw _ wq_3_123) rfl d_MD_keep_26 rfl ?_
    refine fx_bipush (pc' := 31) hF (v := (20 : Int32)) d_MD_keep_29 rfl rfl ?_
    refine fx_iload_n (pc' := 32) hF d_MD_keep_31 rfl 2 rfl rfl ?_
    refine fx_imul (pc' := 33) hF d_MD_keep_32 rfl ?_
    refine fx_iload_n (pc' := 34) hF d_MD_keep_33 rfl 3 rfl rfl ?_
    refine fx_iadd (pc' := 35) hF d_MD_keep_34 rfl ?_
    refine fx_iconst (pc' := 36) hF (v := (1 : Int32)) d_MD_keep_35 rfl rfl ?_
    obtain ⟨q3, h⟩ := fw_gd_some h
    obtain ⟨I4, eI4, h⟩ := fw_let_some h
    refine fx_zast (pc' := 37) hC ka2 q3 rfl eI4 d_MD_keep_36 rfl ?_
    refine fx_aload_n (pc' := 38) hF d_MD_keep_37 rfl 0 rfl rfl ?_
    obtain ⟨a5, na5, ea5, ka5, h⟩ := fw_ld_some h
    refine fx_getr (pc' := 41) hC hk0 (by decide) rfl iw_MD 8 (by decide) (by decide) rfl na5 ea5 (hw _ wq_3_124) rfl d_MD_keep_38 rfl ?_
    refine fx_bipush (pc' := 43) hF (v := (20 : Int32)) d_MD_keep_41 rfl rfl ?_
    refine fx_iload_n (pc' := 44) hF d_MD_keep_43 rfl 2 rfl rfl ?_
    refine fx_imul (pc' := 45) hF d_MD_keep_44 rfl ?_
    refine fx_iload_n (pc' := 46) hF d_MD_keep_45 rfl 3 rfl rfl ?_
    refine fx_iadd (pc' := 47) hF d_MD_keep_46 rfl ?_
    refine fx_iload (pc' := 49) hF d_MD_keep_47 4 rfl rfl ?_
    obtain ⟨q6, h⟩ := fw_gd_some h
    obtain ⟨I7, eI7, h⟩ := fw_let_some h
    refine fx_iast (pc' := 50) hC ka5 q6 eI7 d_MD_keep_49 rfl ?_
    refine fx_aload_n (pc' := 51) hF d_MD_keep_50 rfl 0 rfl rfl ?_
    obtain ⟨a8, na8, ea8, ka8, h⟩ := fw_ld_some h
    refine fx_getr (pc' := 54) hC hk0 (by decide) rfl iw_MD 6 (by decide) (by decide) rfl na8 ea8 (hw _ wq_3_122) rfl d_MD_keep_51 rfl ?_
    refine fx_iload_n (pc' := 55) hF d_MD_keep_54 rfl 2 rfl rfl ?_
    refine fx_iload (pc' := 57) hF d_MD_keep_55 6 rfl rfl ?_
    refine fx_aload_n (pc' := 58) hF d_MD_keep_57 rfl 0 rfl rfl ?_
    obtain ⟨a9, na9, ea9, ka9, h⟩ := fw_ld_some h
    refine fx_getr (pc' := 61) hC hk0 (by decide) rfl iw_MD 6 (by decide) (by decide) rfl na9 ea9 (hw _ wq_3_122) rfl d_MD_keep_58 rfl ?_
    refine fx_iload_n (pc' := 62) hF d_MD_keep_61 rfl 2 rfl rfl ?_
    obtain ⟨q10, h⟩ := fw_gd_some h
    refine fx_iald (pc' := 63) hC ka9 q10 d_MD_keep_62 rfl ?_
    refine fx_icmp_le hF (tgt := 71) (pc' := 66) d_MD_keep_63 rfl rfl (fun q11 => ?_) (fun q11 => ?_)
    · rw [if_pos q11] at h
      refine fx_aload_n (pc' := 72) hF d_MD_keep_71 rfl 0 rfl rfl ?_
      obtain ⟨a12, na12, ea12, ka12, h⟩ := fw_ld_some h
      refine fx_getr (pc' := 75) hC hk0 (by decide) rfl iw_MD 6 (by decide) (by decide) rfl na12 ea12 (hw _ wq_3_122) rfl d_MD_keep_72 rfl ?_
      refine fx_iload_n (pc' := 76) hF d_MD_keep_75 rfl 2 rfl rfl ?_
      obtain ⟨q13, h⟩ := fw_gd_some h
      refine fx_iald (pc' := 77) hC ka12 q13 d_MD_keep_76 rfl ?_
      obtain ⟨q14, h⟩ := fw_gd_some h
      obtain ⟨I15, eI15, h⟩ := fw_let_some h
      refine fx_iast (pc' := 78) hC ka8 q14 eI15 d_MD_keep_77 rfl ?_
      refine fx_aload_n (pc' := 79) hF d_MD_keep_78 rfl 0 rfl rfl ?_
      refine fx_iconst (pc' := 80) hF (v := (3 : Int32)) d_MD_keep_79 rfl rfl ?_
      refine fx_iload_n (pc' := 81) hF d_MD_keep_80 rfl 1 rfl rfl ?_
      refine fx_iload_n (pc' := 82) hF d_MD_keep_81 rfl 2 rfl rfl ?_
      refine fx_iload_n (pc' := 83) hF d_MD_keep_82 rfl 3 rfl rfl ?_
      refine fx_iconst (pc' := 84) hF (v := (0 : Int32)) d_MD_keep_83 rfl rfl ?_
      refine fx_iload (pc' := 86) hF d_MD_keep_84 5 rfl rfl ?_
      refine fx_iconst (pc' := 87) hF (v := (0 : Int32)) d_MD_keep_86 rfl rfl ?_
      obtain ⟨I16, c17, h⟩ := fw_bv_some h
      refine fx_callVv (pc' := 90) (As := [.int (3 : Int32), .int x1, .int x2, .int x3, .int (0 : Int32), .int x5, .int (0 : Int32)]) (st := []) hC hN hA hk0 (by decide) rfl (ct_MD_send l D aC g n K I15 k0 (3 : Int32) x1 x2 x3 (0 : Int32) x5 (0 : Int32) I16 hn hk0 c17) (cwV 7 hF.2.2.2.2 (fw_gV wq_3_212 wq_3_214 wsel_MD_send wq_1_8 wq_3_215) rfl rfl rfl ⟨rfl, by decide +kernel, by decide +kernel, by decide +kernel⟩ ⟨Nat.le_of_ble_eq_true rfl, Nat.le_of_ble_eq_true rfl⟩) ⟨Nat.zero_le _, Nat.zero_le _⟩ rfl rfl (Nat.le_of_ble_eq_true rfl) d_MD_keep_87 rfl ?_
      exact he I16 _ _ d_MD_keep_90 h
    · rw [if_neg q11] at h
      refine fx_iload (pc' := 68) hF d_MD_keep_66 6 rfl rfl ?_
      refine fx_goto hF (tgt := 77) d_MD_keep_68 rfl ?_
      obtain ⟨q18, h⟩ := fw_gd_some h
      obtain ⟨I19, eI19, h⟩ := fw_let_some h
      refine fx_iast (pc' := 78) hC ka8 q18 eI19 d_MD_keep_77 rfl ?_
      refine fx_aload_n (pc' := 79) hF d_MD_keep_78 rfl 0 rfl rfl ?_
      refine fx_iconst (pc' := 80) hF (v := (3 : Int32)) d_MD_keep_79 rfl rfl ?_
      refine fx_iload_n (pc' := 81) hF d_MD_keep_80 rfl 1 rfl rfl ?_
      refine fx_iload_n (pc' := 82) hF d_MD_keep_81 rfl 2 rfl rfl ?_
      refine fx_iload_n (pc' := 83) hF d_MD_keep_82 rfl 3 rfl rfl ?_
      refine fx_iconst (pc' := 84) hF (v := (0 : Int32)) d_MD_keep_83 rfl rfl ?_
      refine fx_iload (pc' := 86) hF d_MD_keep_84 5 rfl rfl ?_
      refine fx_iconst (pc' := 87) hF (v := (0 : Int32)) d_MD_keep_86 rfl rfl ?_
      obtain ⟨I20, c21, h⟩ := fw_bv_some h
      refine fx_callVv (pc' := 90) (As := [.int (3 : Int32), .int x1, .int x2, .int x3, .int (0 : Int32), .int x5, .int (0 : Int32)]) (st := []) hC hN hA hk0 (by decide) rfl (ct_MD_send l D aC g n K I19 k0 (3 : Int32) x1 x2 x3 (0 : Int32) x5 (0 : Int32) I20 hn hk0 c21) (cwV 7 hF.2.2.2.2 (fw_gV wq_3_212 wq_3_214 wsel_MD_send wq_1_8 wq_3_215) rfl rfl rfl ⟨rfl, by decide +kernel, by decide +kernel, by decide +kernel⟩ ⟨Nat.le_of_ble_eq_true rfl, Nat.le_of_ble_eq_true rfl⟩) ⟨Nat.zero_le _, Nat.zero_le _⟩ rfl rfl (Nat.le_of_ble_eq_true rfl) d_MD_keep_87 rfl ?_
      exact he I20 _ _ d_MD_keep_90 h
  change fw_G p l e r_MD_keep s m args below meth c 0 0 Q 7 D aC A g n K I 0 [(0, .ref (g k0)), (1, .int x1), (2, .int x2), (3, .int x3), (4, .int x4), (5, .int x5), (6, .int x6)] []
  refine fx_iload_n (pc' := 1) hF d_MD_keep_0 rfl 1 rfl rfl ?_
  refine fx_if_ne hF (tgt := 25) (pc' := 4) d_MD_keep_1 rfl rfl (fun q1 => ?_) (fun q1 => ?_)
  · rw [if_neg q1] at h
    exact B25 I x1 x2 x3 x4 x5 x6 h
  · rw [if_pos q1] at h
    refine fx_aload_n (pc' := 5) hF d_MD_keep_4 rfl 0 rfl rfl ?_
    obtain ⟨a22, na22, ea22, ka22, h⟩ := fw_ld_some h
    refine fx_getr (pc' := 8) hC hk0 (by decide) rfl iw_MD 5 (by decide) (by decide) rfl na22 ea22 (hw _ wq_3_121) rfl d_MD_keep_5 rfl ?_
    refine fx_iload_n (pc' := 9) hF d_MD_keep_8 rfl 2 rfl rfl ?_
    obtain ⟨q23, h⟩ := fw_gd_some h
    refine fx_zald (pc' := 10) hC ka22 q23 d_MD_keep_9 rfl ?_
    refine fx_if_eq hF (tgt := 25) (pc' := 13) d_MD_keep_10 rfl rfl (fun q24 => ?_) (fun q24 => ?_)
    · rw [if_pos q24] at h
      exact B25 I x1 x2 x3 x4 x5 x6 h
    · rw [if_neg q24] at h
      refine fx_aload_n (pc' := 14) hF d_MD_keep_13 rfl 0 rfl rfl ?_
      refine fx_iconst (pc' := 15) hF (v := (4 : Int32)) d_MD_keep_14 rfl rfl ?_
      refine fx_iload_n (pc' := 16) hF d_MD_keep_15 rfl 1 rfl rfl ?_
      refine fx_iload_n (pc' := 17) hF d_MD_keep_16 rfl 2 rfl rfl ?_
      refine fx_iload_n (pc' := 18) hF d_MD_keep_17 rfl 3 rfl rfl ?_
      refine fx_iconst (pc' := 19) hF (v := (0 : Int32)) d_MD_keep_18 rfl rfl ?_
      refine fx_iconst (pc' := 20) hF (v := (0 : Int32)) d_MD_keep_19 rfl rfl ?_
      refine fx_iconst (pc' := 21) hF (v := (0 : Int32)) d_MD_keep_20 rfl rfl ?_
      obtain ⟨I25, c26, h⟩ := fw_bv_some h
      refine fx_callVv (pc' := 24) (As := [.int (4 : Int32), .int x1, .int x2, .int x3, .int (0 : Int32), .int (0 : Int32), .int (0 : Int32)]) (st := []) hC hN hA hk0 (by decide) rfl (ct_MD_send l D aC g n K I k0 (4 : Int32) x1 x2 x3 (0 : Int32) (0 : Int32) (0 : Int32) I25 hn hk0 c26) (cwV 7 hF.2.2.2.2 (fw_gV wq_3_212 wq_3_214 wsel_MD_send wq_1_8 wq_3_215) rfl rfl rfl ⟨rfl, by decide +kernel, by decide +kernel, by decide +kernel⟩ ⟨Nat.le_of_ble_eq_true rfl, Nat.le_of_ble_eq_true rfl⟩) ⟨Nat.zero_le _, Nat.zero_le _⟩ rfl rfl (Nat.le_of_ble_eq_true rfl) d_MD_keep_21 rfl ?_
      exact he I25 _ _ d_MD_keep_24 h
set_option maxHeartbeats 4000000 in
set_option maxRecDepth 100000 in
theorem ct_MD_deliver (l : Launch) (D : va_G) (aC : Nat → ClassId) (g : Nat → Nat) (n : Nat) (K : Nat → Nat × Nat) (I : Nat → Nat → Int32) (k0 : Nat) (x1 : Int32) (Rr : Int32 × (Nat → Nat → Int32)) (hn : ∀ k, (K k).1 < 99 → k < n) (hk0 : (K k0).1 = 6) (h : fn_MD_deliver K I k0 x1 = some Rr) : fw_Mi l y_MD_deliver w_MD_deliver r_MD_deliver D aC g n K I [.ref (g k0), .int x1] Rr := by
  refine fw_ofGi (cc := b_MD_deliver) (maxL := 10) (ws' := fw_ws) (by decide +kernel) hn (Nat.le_of_ble_eq_true rfl) rfl ?_
  intro p e s m args below meth c A Q hC hN hA he
  have hF := hC.1
  have hw : ∀ w ∈ fw_ws, w.before args s = true := fun w hw => hF.2.2.2.2 w (List.mem_cons_of_mem _ hw)
  unfold fn_MD_deliver at h
  have B179 : ∀ (I : Nat → Nat → Int32) (x3 : Int32) (x4 : Int32) (x5 : Int32) (x6 : Int32) (x7 : Int32) (x8 : Int32), fn_MD_deliver_179 K I k0 x3 x4 x5 x6 x7 x8 = some Rr → fw_G p l e r_MD_deliver s m args below meth c 0 0 Q 10 D aC A g n K I 179 [(0, .ref (g k0)), (3, .int x3), (4, .int x4), (5, .int x5), (6, .int x6), (7, .int x7), (8, .int x8)] [] := by
    intro I x3 x4 x5 x6 x7 x8 h
    unfold fn_MD_deliver_179 at h
    refine fx_iload_n (pc' := 180) hF d_MD_deliver_179 rfl 1 rfl rfl ?_
    refine fx_iconst (pc' := 181) hF (v := (3 : Int32)) d_MD_deliver_180 rfl rfl ?_
    refine fx_icmp_lt hF (tgt := 209) (pc' := 184) d_MD_deliver_181 rfl rfl (fun q25 => ?_) (fun q25 => ?_)
    · rw [if_pos q25] at h
      refine fx_iload_n (pc' := 210) hF d_MD_deliver_209 rfl 1 rfl rfl ?_
      exact he I _ _ rfl _ d_MD_deliver_210 h
    · rw [if_neg q25] at h
      refine fx_iload (pc' := 186) hF d_MD_deliver_184 6 rfl rfl ?_
      refine fx_aload_n (pc' := 187) hF d_MD_deliver_186 rfl 0 rfl rfl ?_
      obtain ⟨a26, na26, ea26, ka26, h⟩ := fw_ld_some h
      refine fx_getr (pc' := 190) hC hk0 (by decide) rfl iw_MD 20 (by decide) (by decide) rfl na26 ea26 (hw _ wq_3_136) rfl d_MD_deliver_187 rfl ?_
      refine fx_iload (pc' := 192) hF d_MD_deliver_190 2 rfl rfl ?_
      obtain ⟨q27, h⟩ := fw_gd_some h
      refine fx_iald (pc' := 193) hC ka26 q27 d_MD_deliver_192 rfl ?_
      refine fx_icmp_ne hF (tgt := 209) (pc' := 196) d_MD_deliver_193 rfl rfl (fun q28 => ?_) (fun q28 => ?_)
      · rw [if_neg q28] at h
        refine fx_iload_n (pc' := 210) hF d_MD_deliver_209 rfl 1 rfl rfl ?_
        exact he I _ _ rfl _ d_MD_deliver_210 h
      · rw [if_pos q28] at h
        refine fx_aload_n (pc' := 197) hF d_MD_deliver_196 rfl 0 rfl rfl ?_
        refine fx_iload_n (pc' := 198) hF d_MD_deliver_197 rfl 1 rfl rfl ?_
        refine fx_iload (pc' := 200) hF d_MD_deliver_198 2 rfl rfl ?_
        refine fx_iload (pc' := 202) hF d_MD_deliver_200 3 rfl rfl ?_
        refine fx_iload (pc' := 204) hF d_MD_deliver_202 4 rfl rfl ?_
        refine fx_iload (pc' := 206) hF d_MD_deliver_204 5 rfl rfl ?_
        obtain ⟨I29, c30, h⟩ := fw_bv_some h
        refine fx_callVv (pc' := 209) (As := [.int x3, .int x4, .int x5, .int x6, .int x7]) (st := []) hC hN hA hk0 (by decide) rfl (ct_MD_learns l D aC g n K I k0 x3 x4 x5 x6 x7 I29 hn hk0 c30) (cwV 5 hF.2.2.2.2 (fw_gV wq_3_228 wq_3_230 wsel_MD_learns wq_1_8 wq_3_231) rfl rfl rfl ⟨rfl, by decide +kernel, by decide +kernel, by decide +kernel⟩ ⟨Nat.le_of_ble_eq_true rfl, Nat.le_of_ble_eq_true rfl⟩) ⟨Nat.zero_le _, Nat.zero_le _⟩ rfl rfl (Nat.le_of_ble_eq_true rfl) d_MD_deliver_206 rfl ?_
        refine fx_iload_n (pc' := 210) hF d_MD_deliver_209 rfl 1 rfl rfl ?_
        exact he I29 _ _ rfl _ d_MD_deliver_210 h
  have B157 : ∀ (I : Nat → Nat → Int32) (x3 : Int32) (x4 : Int32) (x5 : Int32) (x6 : Int32) (x7 : Int32) (x8 : Int32), fn_MD_deliver_157 K I k0 x3 x4 x5 x6 x7 x8 = some Rr → fw_G p l e r_MD_deliver s m args below meth c 0 0 Q 10 D aC A g n K I 157 [(0, .ref (g k0)), (3, .int x3), (4, .int x4), (5, .int x5), (6, .int x6), (7, .int x7), (8, .int x8)] [] := by
    intro I x3 x4 x5 x6 x7 x8 h
    unfold fn_MD_deliver_157 at h
    refine fx_iload_n (pc' := 158) hF d_MD_deliver_157 rfl 1 rfl rfl ?_
    refine fx_iconst (pc' := 159) hF (v := (3 : Int32)) d_MD_deliver_158 rfl rfl ?_
    refine fx_icmp_lt hF (tgt := 179) (pc' := 162) d_MD_deliver_159 rfl rfl (fun q24 => ?_) (fun q24 => ?_)
    · rw [if_pos q24] at h
      exact B179 I x3 x4 x5 x6 x7 x8 h
    · rw [if_neg q24] at h
      refine fx_iload (pc' := 164) hF d_MD_deliver_162 2 rfl rfl ?_
      refine fx_if_ne hF (tgt := 179) (pc' := 167) d_MD_deliver_164 rfl rfl (fun q31 => ?_) (fun q31 => ?_)
      · rw [if_neg q31] at h
        exact B179 I x3 x4 x5 x6 x7 x8 h
      · rw [if_pos q31] at h
        refine fx_aload_n (pc' := 168) hF d_MD_deliver_167 rfl 0 rfl rfl ?_
        refine fx_iload_n (pc' := 169) hF d_MD_deliver_168 rfl 1 rfl rfl ?_
        refine fx_iload (pc' := 171) hF d_MD_deliver_169 3 rfl rfl ?_
        refine fx_iload (pc' := 173) hF d_MD_deliver_171 4 rfl rfl ?_
        obtain ⟨I32, c33, h⟩ := fw_bv_some h
        refine fx_callVv (pc' := 176) (As := [.int x3, .int x5, .int x6]) (st := []) hC hN hA hk0 (by decide) rfl (ct_MD_hears l D aC g n K I k0 x3 x5 x6 I32 hn hk0 c33) (cwV 3 hF.2.2.2.2 (fw_gV wq_3_220 wq_3_222 wsel_MD_hears wq_1_8 wq_3_223) rfl rfl rfl ⟨rfl, by decide +kernel, by decide +kernel, by decide +kernel⟩ ⟨Nat.le_of_ble_eq_true rfl, Nat.le_of_ble_eq_true rfl⟩) ⟨Nat.zero_le _, Nat.zero_le _⟩ rfl rfl (Nat.le_of_ble_eq_true rfl) d_MD_deliver_173 rfl ?_
        refine fx_goto hF (tgt := 209) d_MD_deliver_176 rfl ?_
        refine fx_iload_n (pc' := 210) hF d_MD_deliver_209 rfl 1 rfl rfl ?_
        exact he I32 _ _ rfl _ d_MD_deliver_210 h
  have B126 : ∀ (I : Nat → Nat → Int32) (x3 : Int32) (x4 : Int32) (x5 : Int32) (x6 : Int32) (x7 : Int32) (x8 : Int32), fn_MD_deliver_126 K I k0 x3 x4 x5 x6 x7 x8 = some Rr → fw_G p l e r_MD_deliver s m args below meth c 0 0 Q 10 D aC A g n K I 126 [(0, .ref (g k0)), (3, .int x3), (4, .int x4), (5, .int x5), (6, .int x6), (7, .int x7), (8, .int x8)] [] := by
    intro I x3 x4 x5 x6 x7 x8 h
    unfold fn_MD_deliver_126 at h
    refine fx_iload_n (pc' := 127) hF d_MD_deliver_126 rfl 1 rfl rfl ?_
    refine fx_iconst (pc' := 128) hF (v := (3 : Int32)) d_MD_deliver_127 rfl rfl ?_
    refine fx_icmp_ge hF (tgt := 157) (pc' := 131) d_MD_deliver_128 rfl rfl (fun q23 => ?_) (fun q23 => ?_)
    · rw [if_pos q23] at h
      exact B157 I x3 x4 x5 x6 x7 x8 h
    · rw [if_neg q23] at h
      refine fx_aload_n (pc' := 132) hF d_MD_deliver_131 rfl 0 rfl rfl ?_
      obtain ⟨a34, na34, ea34, ka34, h⟩ := fw_ld_some h
      refine fx_getr (pc' := 135) hC hk0 (by decide) rfl iw_MD 4 (by decide) (by decide) rfl na34 ea34 (hw _ wq_3_120) rfl d_MD_deliver_132 rfl ?_
      refine fx_iload (pc' := 137) hF d_MD_deliver_135 3 rfl rfl ?_
      obtain ⟨q35, h⟩ := fw_gd_some h
      refine fx_zald (pc' := 138) hC ka34 q35 d_MD_deliver_137 rfl ?_
      refine fx_if_ne hF (tgt := 157) (pc' := 141) d_MD_deliver_138 rfl rfl (fun q36 => ?_) (fun q36 => ?_)
      · rw [if_neg q36] at h
        exact B157 I x3 x4 x5 x6 x7 x8 h
      · rw [if_pos q36] at h
        refine fx_aload_n (pc' := 142) hF d_MD_deliver_141 rfl 0 rfl rfl ?_
        refine fx_iload_n (pc' := 143) hF d_MD_deliver_142 rfl 1 rfl rfl ?_
        refine fx_iload (pc' := 145) hF d_MD_deliver_143 2 rfl rfl ?_
        refine fx_iload (pc' := 147) hF d_MD_deliver_145 3 rfl rfl ?_
        refine fx_iload (pc' := 149) hF d_MD_deliver_147 4 rfl rfl ?_
        refine fx_iload (pc' := 151) hF d_MD_deliver_149 6 rfl rfl ?_
        obtain ⟨I37, c38, h⟩ := fw_bv_some h
        refine fx_callVv (pc' := 154) (As := [.int x3, .int x4, .int x5, .int x6, .int x8]) (st := []) hC hN hA hk0 (by decide) rfl (ct_MD_fence l D aC g n K I k0 x3 x4 x5 x6 x8 I37 hn hk0 c38) (cwV 5 hF.2.2.2.2 (fw_gV wq_3_216 wq_3_218 wsel_MD_fence wq_1_8 wq_3_219) rfl rfl rfl ⟨rfl, by decide +kernel, by decide +kernel, by decide +kernel⟩ ⟨Nat.le_of_ble_eq_true rfl, Nat.le_of_ble_eq_true rfl⟩) ⟨Nat.zero_le _, Nat.zero_le _⟩ rfl rfl (Nat.le_of_ble_eq_true rfl) d_MD_deliver_151 rfl ?_
        refine fx_goto hF (tgt := 209) d_MD_deliver_154 rfl ?_
        refine fx_iload_n (pc' := 210) hF d_MD_deliver_209 rfl 1 rfl rfl ?_
        exact he I37 _ _ rfl _ d_MD_deliver_210 h
  change fw_G p l e r_MD_deliver s m args below meth c 0 0 Q 10 D aC A g n K I 0 [(0, .ref (g k0)), (1, .int x1)] []
  refine fx_aload_n (pc' := 1) hF d_MD_deliver_0 rfl 0 rfl rfl ?_
  refine fx_iconst (pc' := 2) hF (v := (0 : Int32)) d_MD_deliver_1 rfl rfl ?_
  obtain ⟨I1, eI1, h⟩ := fw_let_some h
  refine fx_puti (pc' := 5) hC hk0 (by decide) rfl iw_MD 0 (by decide) (by decide) rfl ty_MD tyok_MD nn_MD rfl eI1 (tyok_MD 0 (by decide)) rfl rfl (hw _ wq_3_116) rfl d_MD_deliver_2 rfl ?_
  refine fx_aload_n (pc' := 6) hF d_MD_deliver_5 rfl 0 rfl rfl ?_
  refine fx_iload_n (pc' := 7) hF d_MD_deliver_6 rfl 1 rfl rfl ?_
  obtain ⟨r4, I2, c3, h⟩ := fw_bd_some h
  refine fx_callVi (pc' := 10) (As := [.int x1]) (st := []) hC hN hA hk0 (by decide) rfl (ct_MD_isMessage l D aC g n K I1 k0 x1 (r4, I2) hn hk0 c3) (cwV 1 hF.2.2.2.2 (fw_gV wq_3_200 wq_3_202 wsel_MD_isMessage wq_1_8 wq_3_203) rfl rfl rfl ⟨rfl, by decide +kernel, by decide +kernel, by decide +kernel⟩ ⟨Nat.le_of_ble_eq_true rfl, Nat.le_of_ble_eq_true rfl⟩) ⟨Nat.zero_le _, Nat.zero_le _⟩ rfl rfl (Nat.le_of_ble_eq_true rfl) d_MD_deliver_7 rfl ?_
  refine fx_if_ne hF (tgt := 15) (pc' := 13) d_MD_deliver_10 rfl rfl (fun q5 => ?_) (fun q5 => ?_)
  · rw [if_neg q5] at h
    refine fx_bipush (pc' := 17) hF (v := (7 : Int32)) d_MD_deliver_15 rfl rfl ?_
    refine fx_iload_n (pc' := 18) hF d_MD_deliver_17 rfl 1 rfl rfl ?_
    refine fx_imul (pc' := 19) hF d_MD_deliver_18 rfl ?_
    refine fx_istore_n (pc' := 20) hF (lv' := [(2, .int ((7 : Int32) * x1)), (0, .ref (g k0)), (1, .int x1)]) d_MD_deliver_19 rfl (by decide) rfl rfl ?_
    refine fx_aload_n (pc' := 21) hF d_MD_deliver_20 rfl 1 rfl rfl ?_
    obtain ⟨a6, na6, ea6, ka6, h⟩ := fw_ld_some h
    refine fx_getr (pc' := 24) hC hk0 (by decide) rfl iw_MD 13 (by decide) (by decide) rfl na6 ea6 (hw _ wq_3_129) rfl d_MD_deliver_21 rfl ?_
    refine fx_iload_n (pc' := 25) hF d_MD_deliver_24 rfl 0 rfl rfl ?_
    obtain ⟨q7, h⟩ := fw_gd_some h
    refine fx_iald (pc' := 26) hC ka6 q7 d_MD_deliver_25 rfl ?_
    refine fx_istore_n (pc' := 27) hF (lv' := [(3, .int (I2 a6 ((7 : Int32) * x1).toNatClampNeg)), (2, .int ((7 : Int32) * x1)), (0, .ref (g k0)), (1, .int x1)]) d_MD_deliver_26 rfl (by decide) rfl rfl ?_
    refine fx_aload_n (pc' := 28) hF d_MD_deliver_27 rfl 2 rfl rfl ?_
    obtain ⟨a8, na8, ea8, ka8, h⟩ := fw_ld_some h
    refine fx_getr (pc' := 31) hC hk0 (by decide) rfl iw_MD 13 (by decide) (by decide) rfl na8 ea8 (hw _ wq_3_129) rfl d_MD_deliver_28 rfl ?_
    refine fx_iload_n (pc' := 32) hF d_MD_deliver_31 rfl 1 rfl rfl ?_
    refine fx_iconst (pc' := 33) hF (v := (1 : Int32)) d_MD_deliver_32 rfl rfl ?_
    refine fx_iadd (pc' := 34) hF d_MD_deliver_33 rfl ?_
    obtain ⟨q9, h⟩ := fw_gd_some h
    refine fx_iald (pc' := 35) hC ka8 q9 d_MD_deliver_34 rfl ?_
    refine fx_istore (pc' := 37) hF (lv' := [(4, .int (I2 a8 (((7 : Int32) * x1) + (1 : Int32)).toNatClampNeg)), (3, .int (I2 a6 ((7 : Int32) * x1).toNatClampNeg)), (2, .int ((7 : Int32) * x1)), (0, .ref (g k0)), (1, .int x1)]) d_MD_deliver_35 (by decide) rfl rfl ?_
    refine fx_aload_n (pc' := 38) hF d_MD_deliver_37 rfl 3 rfl rfl ?_
    obtain ⟨a10, na10, ea10, ka10, h⟩ := fw_ld_some h
    refine fx_getr (pc' := 41) hC hk0 (by decide) rfl iw_MD 13 (by decide) (by decide) rfl na10 ea10 (hw _ wq_3_129) rfl d_MD_deliver_38 rfl ?_
    refine fx_iload_n (pc' := 42) hF d_MD_deliver_41 rfl 2 rfl rfl ?_
    refine fx_iconst (pc' := 43) hF (v := (2 : Int32)) d_MD_deliver_42 rfl rfl ?_
    refine fx_iadd (pc' := 44) hF d_MD_deliver_43 rfl ?_
    obtain ⟨q11, h⟩ := fw_gd_some h
    refine fx_iald (pc' := 45) hC ka10 q11 d_MD_deliver_44 rfl ?_
    refine fx_istore (pc' := 47) hF (lv' := [(5, .int (I2 a10 (((7 : Int32) * x1) + (2 : Int32)).toNatClampNeg)), (4, .int (I2 a8 (((7 : Int32) * x1) + (1 : Int32)).toNatClampNeg)), (3, .int (I2 a6 ((7 : Int32) * x1).toNatClampNeg)), (2, .int ((7 : Int32) * x1)), (0, .ref (g k0)), (1, .int x1)]) d_MD_deliver_45 (by decide) rfl rfl ?_
    refine fx_aload_n (pc' := 48) hF d_MD_deliver_47 rfl 4 rfl rfl ?_
    obtain ⟨a12, na12, ea12, ka12, h⟩ := fw_ld_some h
    refine fx_getr (pc' := 51) hC hk0 (by decide) rfl iw_MD 13 (by decide) (by decide) rfl na12 ea12 (hw _ wq_3_129) rfl d_MD_deliver_48 rfl ?_
    refine fx_iload_n (pc' := 52) hF d_MD_deliver_51 rfl 3 rfl rfl ?_
    refine fx_iconst (pc' := 53) hF (v := (3 : Int32)) d_MD_deliver_52 rfl rfl ?_
    refine fx_iadd (pc' := 54) hF d_MD_deliver_53 rfl ?_
    obtain ⟨q13, h⟩ := fw_gd_some h
    refine fx_iald (pc' := 55) hC ka12 q13 d_MD_deliver_54 rfl ?_
    refine fx_istore (pc' := 57) hF (lv' := [(6, .int (I2 a12 (((7 : Int32) * x1) + (3 : Int32)).toNatClampNeg)), (5, .int (I2 a10 (((7 : Int32) * x1) + (2 : Int32)).toNatClampNeg)), (4, .int (I2 a8 (((7 : Int32) * x1) + (1 : Int32)).toNatClampNeg)), (3, .int (I2 a6 ((7 : Int32) * x1).toNatClampNeg)), (2, .int ((7 : Int32) * x1)), (0, .ref (g k0)), (1, .int x1)]) d_MD_deliver_55 (by decide) rfl rfl ?_
    refine fx_aload_n (pc' := 58) hF d_MD_deliver_57 rfl 5 rfl rfl ?_
    obtain ⟨a14, na14, ea14, ka14, h⟩ := fw_ld_some h
    refine fx_getr (pc' := 61) hC hk0 (by decide) rfl iw_MD 13 (by decide) (by decide) rfl na14 ea14 (hw _ wq_3_129) rfl d_MD_deliver_58 rfl ?_
    refine fx_iload_n (pc' := 62) hF d_MD_deliver_61 rfl 4 rfl rfl ?_
    refine fx_iconst (pc' := 63) hF (v := (4 : Int32)) d_MD_deliver_62 rfl rfl ?_
    refine fx_iadd (pc' := 64) hF d_MD_deliver_63 rfl ?_
    obtain ⟨q15, h⟩ := fw_gd_some h
    refine fx_iald (pc' := 65) hC ka14 q15 d_MD_deliver_64 rfl ?_
    refine fx_istore (pc' := 67) hF (lv' := [(7, .int (I2 a14 (((7 : Int32) * x1) + (4 : Int32)).toNatClampNeg)), (6, .int (I2 a12 (((7 : Int32) * x1) + (3 : Int32)).toNatClampNeg)), (5, .int (I2 a10 (((7 : Int32) * x1) + (2 : Int32)).toNatClampNeg)), (4, .int (I2 a8 (((7 : Int32) * x1) + (1 : Int32)).toNatClampNeg)), (3, .int (I2 a6 ((7 : Int32) * x1).toNatClampNeg)), (2, .int ((7 : Int32) * x1)), (0, .ref (g k0)), (1, .int x1)]) d_MD_deliver_65 (by decide) rfl rfl ?_
    refine fx_aload_n (pc' := 68) hF d_MD_deliver_67 rfl 6 rfl rfl ?_
    obtain ⟨a16, na16, ea16, ka16, h⟩ := fw_ld_some h
    refine fx_getr (pc' := 71) hC hk0 (by decide) rfl iw_MD 13 (by decide) (by decide) rfl na16 ea16 (hw _ wq_3_129) rfl d_MD_deliver_68 rfl ?_
    refine fx_iload_n (pc' := 72) hF d_MD_deliver_71 rfl 5 rfl rfl ?_
    refine fx_iconst (pc' := 73) hF (v := (5 : Int32)) d_MD_deliver_72 rfl rfl ?_
    refine fx_iadd (pc' := 74) hF d_MD_deliver_73 rfl ?_
    obtain ⟨q17, h⟩ := fw_gd_some h
    refine fx_iald (pc' := 75) hC ka16 q17 d_MD_deliver_74 rfl ?_
    refine fx_istore (pc' := 77) hF (lv' := [(8, .int (I2 a16 (((7 : Int32) * x1) + (5 : Int32)).toNatClampNeg)), (7, .int (I2 a14 (((7 : Int32) * x1) + (4 : Int32)).toNatClampNeg)), (6, .int (I2 a12 (((7 : Int32) * x1) + (3 : Int32)).toNatClampNeg)), (5, .int (I2 a10 (((7 : Int32) * x1) + (2 : Int32)).toNatClampNeg)), (4, .int (I2 a8 (((7 : Int32) * x1) + (1 : Int32)).toNatClampNeg)), (3, .int (I2 a6 ((7 : Int32) * x1).toNatClampNeg)), (2, .int ((7 : Int32) * x1)), (0, .ref (g k0)), (1, .int x1)]) d_MD_deliver_75 (by decide) rfl rfl ?_
    refine fx_aload_n (pc' := 78) hF d_MD_deliver_77 rfl 7 rfl rfl ?_
    obtain ⟨a18, na18, ea18, ka18, h⟩ := fw_ld_some h
    refine fx_getr (pc' := 81) hC hk0 (by decide) rfl iw_MD 13 (by decide) (by decide) rfl na18 ea18 (hw _ wq_3_129) rfl d_MD_deliver_78 rfl ?_
    refine fx_iload_n (pc' := 82) hF d_MD_deliver_81 rfl 6 rfl rfl ?_
    refine fx_bipush (pc' := 84) hF (v := (6 : Int32)) d_MD_deliver_82 rfl rfl ?_
    refine fx_iadd (pc' := 85) hF d_MD_deliver_84 rfl ?_
    obtain ⟨q19, h⟩ := fw_gd_some h
    refine fx_iald (pc' := 86) hC ka18 q19 d_MD_deliver_85 rfl ?_
    refine fx_istore (pc' := 88) hF (lv' := [(9, .int (I2 a18 (((7 : Int32) * x1) + (6 : Int32)).toNatClampNeg)), (8, .int (I2 a16 (((7 : Int32) * x1) + (5 : Int32)).toNatClampNeg)), (7, .int (I2 a14 (((7 : Int32) * x1) + (4 : Int32)).toNatClampNeg)), (6, .int (I2 a12 (((7 : Int32) * x1) + (3 : Int32)).toNatClampNeg)), (5, .int (I2 a10 (((7 : Int32) * x1) + (2 : Int32)).toNatClampNeg)), (4, .int (I2 a8 (((7 : Int32) * x1) + (1 : Int32)).toNatClampNeg)), (3, .int (I2 a6 ((7 : Int32) * x1).toNatClampNeg)), (2, .int ((7 : Int32) * x1)), (0, .ref (g k0)), (1, .int x1)]) d_MD_deliver_86 (by decide) rfl rfl ?_
    refine fx_aload_n (pc' := 89) hF d_MD_deliver_88 rfl 8 rfl rfl ?_
    refine fx_iload_n (pc' := 90) hF d_MD_deliver_89 rfl 9 rfl rfl ?_
    obtain ⟨I20, c21, h⟩ := fw_bv_some h
    refine fx_callVv (pc' := 93) (As := [.int x1]) (st := []) hC hN hA hk0 (by decide) rfl (ct_MD_remove l D aC g n K I2 k0 x1 I20 hn hk0 c21) (cwV 1 hF.2.2.2.2 (fw_gV wq_3_204 wq_3_206 wsel_MD_remove wq_1_8 wq_3_207) rfl rfl rfl ⟨rfl, by decide +kernel, by decide +kernel, by decide +kernel⟩ ⟨Nat.le_of_ble_eq_true rfl, Nat.le_of_ble_eq_true rfl⟩) ⟨Nat.zero_le _, Nat.zero_le _⟩ rfl rfl (Nat.le_of_ble_eq_true rfl) d_MD_deliver_90 rfl ?_
    refine fx_iload_n (pc' := 94) hF d_MD_deliver_93 rfl 6 rfl rfl ?_
    refine fx_if_ne hF (tgt := 126) (pc' := 97) d_MD_deliver_94 rfl rfl (fun q22 => ?_) (fun q22 => ?_)
    · rw [if_neg q22] at h
      refine fx_lv [8, 6, 5, 4, 3, 2, 1] rfl ?_
      exact B126 I20 (I2 a6 ((7 : Int32) * x1).toNatClampNeg) (I2 a8 (((7 : Int32) * x1) + (1 : Int32)).toNatClampNeg) (I2 a10 (((7 : Int32) * x1) + (2 : Int32)).toNatClampNeg) (I2 a12 (((7 : Int32) * x1) + (3 : Int32)).toNatClampNeg) (I2 a14 (((7 : Int32) * x1) + (4 : Int32)).toNatClampNeg) (I2 a16 (((7 : Int32) * x1) + (5 : Int32)).toNatClampNeg) h
    · rw [if_pos q22] at h
      refine fx_aload_n (pc' := 98) hF d_MD_deliver_97 rfl 8 rfl rfl ?_
      obtain ⟨a39, na39, ea39, ka39, h⟩ := fw_ld_some h
      refine fx_getr (pc' := 101) hC hk0 (by decide) rfl iw_MD 4 (by decide) (by decide) rfl na39 ea39 (hw _ wq_3_120) rfl d_MD_deliver_98 rfl ?_
      refine fx_iload (pc' := 103) hF d_MD_deliver_101 4 rfl rfl ?_
      obtain ⟨q40, h⟩ := fw_gd_some h
      refine fx_zald (pc' := 104) hC ka39 q40 d_MD_deliver_103 rfl ?_
      refine fx_if_ne hF (tgt := 126) (pc' := 107) d_MD_deliver_104 rfl rfl (fun q41 => ?_) (fun q41 => ?_)
      · rw [if_neg q41] at h
        refine fx_lv [8, 6, 5, 4, 3, 2, 1] rfl ?_
        exact B126 I20 (I2 a6 ((7 : Int32) * x1).toNatClampNeg) (I2 a8 (((7 : Int32) * x1) + (1 : Int32)).toNatClampNeg) (I2 a10 (((7 : Int32) * x1) + (2 : Int32)).toNatClampNeg) (I2 a12 (((7 : Int32) * x1) + (3 : Int32)).toNatClampNeg) (I2 a14 (((7 : Int32) * x1) + (4 : Int32)).toNatClampNeg) (I2 a16 (((7 : Int32) * x1) + (5 : Int32)).toNatClampNeg) h
      · rw [if_pos q41] at h
        refine fx_aload_n (pc' := 108) hF d_MD_deliver_107 rfl 8 rfl rfl ?_
        refine fx_iload (pc' := 110) hF d_MD_deliver_108 5 rfl rfl ?_
        refine fx_iload (pc' := 112) hF d_MD_deliver_110 4 rfl rfl ?_
        refine fx_iload (pc' := 114) hF d_MD_deliver_112 3 rfl rfl ?_
        refine fx_iload (pc' := 116) hF d_MD_deliver_114 2 rfl rfl ?_
        refine fx_iload (pc' := 118) hF d_MD_deliver_116 1 rfl rfl ?_
        refine fx_iload (pc' := 120) hF d_MD_deliver_118 0 rfl rfl ?_
        obtain ⟨I42, c43, h⟩ := fw_bv_some h
        refine fx_callVv (pc' := 123) (As := [.int (I2 a8 (((7 : Int32) * x1) + (1 : Int32)).toNatClampNeg), .int (I2 a10 (((7 : Int32) * x1) + (2 : Int32)).toNatClampNeg), .int (I2 a12 (((7 : Int32) * x1) + (3 : Int32)).toNatClampNeg), .int (I2 a14 (((7 : Int32) * x1) + (4 : Int32)).toNatClampNeg), .int (I2 a16 (((7 : Int32) * x1) + (5 : Int32)).toNatClampNeg), .int (I2 a18 (((7 : Int32) * x1) + (6 : Int32)).toNatClampNeg)]) (st := []) hC hN hA hk0 (by decide) rfl (ct_MD_keep l D aC g n K I20 k0 (I2 a8 (((7 : Int32) * x1) + (1 : Int32)).toNatClampNeg) (I2 a10 (((7 : Int32) * x1) + (2 : Int32)).toNatClampNeg) (I2 a12 (((7 : Int32) * x1) + (3 : Int32)).toNatClampNeg) (I2 a14 (((7 : Int32) * x1) + (4 : Int32)).toNatClampNeg) (I2 a16 (((7 : Int32) * x1) + (5 : Int32)).toNatClampNeg) (I2 a18 (((7 : Int32) * x1) + (6 : Int32)).toNatClampNeg) I42 hn hk0 c43) (cwV 6 hF.2.2.2.2 (fw_gV wq_3_208 wq_3_210 wsel_MD_keep wq_1_8 wq_3_211) rfl rfl rfl ⟨rfl, by decide +kernel, by decide +kernel, by decide +kernel⟩ ⟨Nat.le_of_ble_eq_true rfl, Nat.le_of_ble_eq_true rfl⟩) ⟨Nat.zero_le _, Nat.zero_le _⟩ rfl rfl (Nat.le_of_ble_eq_true rfl) d_MD_deliver_120 rfl ?_
        refine fx_goto hF (tgt := 209) d_MD_deliver_123 rfl ?_
        refine fx_iload_n (pc' := 210) hF d_MD_deliver_209 rfl 6 rfl rfl ?_
        exact he I42 _ _ rfl _ d_MD_deliver_210 h
  · rw [if_pos q5] at h
    refine fx_iconst (pc' := 14) hF (v := (-1 : Int32)) d_MD_deliver_13 rfl rfl ?_
    exact he I2 _ _ rfl _ d_MD_deliver_14 h
set_option maxHeartbeats 4000000 in
set_option maxRecDepth 100000 in
theorem ct_MD_lose (l : Launch) (D : va_G) (aC : Nat → ClassId) (g : Nat → Nat) (n : Nat) (K : Nat → Nat × Nat) (I : Nat → Nat → Int32) (k0 : Nat) (x1 : Int32) (Rr : Int32 × (Nat → Nat → Int32)) (hn : ∀ k, (K k).1 < 99 → k < n) (hk0 : (K k0).1 = 6) (h : fn_MD_lose K I k0 x1 = some Rr) : fw_Mi l y_MD_lose w_MD_lose r_MD_lose D aC g n K I [.ref (g k0), .int x1] Rr := by
  refine fw_ofGi (cc := b_MD_lose) (maxL := 2) (ws' := fw_ws) (by decide +kernel) hn (Nat.le_of_ble_eq_true rfl) rfl ?_
  intro p e s m args below meth c A Q hC hN hA he
  have hF := hC.1
  have hw : ∀ w ∈ fw_ws, w.before args s = true := fun w hw => hF.2.2.2.2 w (List.mem_cons_of_mem _ hw)
  unfold fn_MD_lose at h
  change fw_G p l e r_MD_lose s m args below meth c 0 0 Q 2 D aC A g n K I 0 [(0, .ref (g k0)), (1, .int x1)] []
  refine fx_aload_n (pc' := 1) hF d_MD_lose_0 rfl 0 rfl rfl ?_
  refine fx_iconst (pc' := 2) hF (v := (0 : Int32)) d_MD_lose_1 rfl rfl ?_
  obtain ⟨I1, eI1, h⟩ := fw_let_some h
  refine fx_puti (pc' := 5) hC hk0 (by decide) rfl iw_MD 0 (by decide) (by decide) rfl ty_MD tyok_MD nn_MD rfl eI1 (tyok_MD 0 (by decide)) rfl rfl (hw _ wq_3_116) rfl d_MD_lose_2 rfl ?_
  refine fx_aload_n (pc' := 6) hF d_MD_lose_5 rfl 0 rfl rfl ?_
  refine fx_iload_n (pc' := 7) hF d_MD_lose_6 rfl 1 rfl rfl ?_
  obtain ⟨r4, I2, c3, h⟩ := fw_bd_some h
  refine fx_callVi (pc' := 10) (As := [.int x1]) (st := []) hC hN hA hk0 (by decide) rfl (ct_MD_isMessage l D aC g n K I1 k0 x1 (r4, I2) hn hk0 c3) (cwV 1 hF.2.2.2.2 (fw_gV wq_3_200 wq_3_202 wsel_MD_isMessage wq_1_8 wq_3_203) rfl rfl rfl ⟨rfl, by decide +kernel, by decide +kernel, by decide +kernel⟩ ⟨Nat.le_of_ble_eq_true rfl, Nat.le_of_ble_eq_true rfl⟩) ⟨Nat.zero_le _, Nat.zero_le _⟩ rfl rfl (Nat.le_of_ble_eq_true rfl) d_MD_lose_7 rfl ?_
  refine fx_if_ne hF (tgt := 15) (pc' := 13) d_MD_lose_10 rfl rfl (fun q5 => ?_) (fun q5 => ?_)
  · rw [if_neg q5] at h
    refine fx_aload_n (pc' := 16) hF d_MD_lose_15 rfl 0 rfl rfl ?_
    refine fx_iload_n (pc' := 17) hF d_MD_lose_16 rfl 1 rfl rfl ?_
    obtain ⟨I6, c7, h⟩ := fw_bv_some h
    refine fx_callVv (pc' := 20) (As := [.int x1]) (st := []) hC hN hA hk0 (by decide) rfl (ct_MD_remove l D aC g n K I2 k0 x1 I6 hn hk0 c7) (cwV 1 hF.2.2.2.2 (fw_gV wq_3_204 wq_3_206 wsel_MD_remove wq_1_8 wq_3_207) rfl rfl rfl ⟨rfl, by decide +kernel, by decide +kernel, by decide +kernel⟩ ⟨Nat.le_of_ble_eq_true rfl, Nat.le_of_ble_eq_true rfl⟩) ⟨Nat.zero_le _, Nat.zero_le _⟩ rfl rfl (Nat.le_of_ble_eq_true rfl) d_MD_lose_17 rfl ?_
    refine fx_iconst (pc' := 21) hF (v := (1 : Int32)) d_MD_lose_20 rfl rfl ?_
    exact he I6 _ _ rfl _ d_MD_lose_21 h
  · rw [if_pos q5] at h
    refine fx_iconst (pc' := 14) hF (v := (0 : Int32)) d_MD_lose_13 rfl rfl ?_
    exact he I2 _ _ rfl _ d_MD_lose_14 h
set_option maxHeartbeats 4000000 in
set_option maxRecDepth 100000 in
theorem ct_MD_flight (l : Launch) (D : va_G) (aC : Nat → ClassId) (g : Nat → Nat) (n : Nat) (K : Nat → Nat × Nat) (I : Nat → Nat → Int32) (k0 : Nat) (Rr : Int32 × (Nat → Nat → Int32)) (hn : ∀ k, (K k).1 < 99 → k < n) (hk0 : (K k0).1 = 6) (h : fn_MD_flight K I k0 = some Rr) : fw_Mi l y_MD_flight w_MD_flight r_MD_flight D aC g n K I [.ref (g k0)] Rr := by
  refine fw_ofGi (cc := b_MD_flight) (maxL := 1) (ws' := fw_ws) (by decide +kernel) hn (Nat.le_of_ble_eq_true rfl) rfl ?_
  intro p e s m args below meth c A Q hC hN hA he
  have hF := hC.1
  have hw : ∀ w ∈ fw_ws, w.before args s = true := fun w hw => hF.2.2.2.2 w (List.mem_cons_of_mem _ hw)
  unfold fn_MD_flight at h
  change fw_G p l e r_MD_flight s m args below meth c 0 0 Q 1 D aC A g n K I 0 [(0, .ref (g k0))] []
  refine fx_aload_n (pc' := 1) hF d_MD_flight_0 rfl 0 rfl rfl ?_
  refine fx_iconst (pc' := 2) hF (v := (0 : Int32)) d_MD_flight_1 rfl rfl ?_
  obtain ⟨I1, eI1, h⟩ := fw_let_some h
  refine fx_puti (pc' := 5) hC hk0 (by decide) rfl iw_MD 0 (by decide) (by decide) rfl ty_MD tyok_MD nn_MD rfl eI1 (tyok_MD 0 (by decide)) rfl rfl (hw _ wq_3_116) rfl d_MD_flight_2 rfl ?_
  refine fx_aload_n (pc' := 6) hF d_MD_flight_5 rfl 0 rfl rfl ?_
  refine fx_geti (pc' := 9) hC hk0 (by decide) rfl iw_MD 12 (by decide) (by decide) rfl (hw _ wq_3_128) rfl d_MD_flight_6 rfl ?_
  exact he I1 _ _ rfl _ d_MD_flight_9 h
set_option maxHeartbeats 4000000 in
set_option maxRecDepth 100000 in
theorem ct_MD_message (l : Launch) (D : va_G) (aC : Nat → ClassId) (g : Nat → Nat) (n : Nat) (K : Nat → Nat × Nat) (I : Nat → Nat → Int32) (k0 : Nat) (x1 : Int32) (x2 : Int32) (Rr : Int32 × (Nat → Nat → Int32)) (hn : ∀ k, (K k).1 < 99 → k < n) (hk0 : (K k0).1 = 6) (h : fn_MD_message K I k0 x1 x2 = some Rr) : fw_Mi l y_MD_message w_MD_message r_MD_message D aC g n K I [.ref (g k0), .int x1, .int x2] Rr := by
  refine fw_ofGi (cc := b_MD_message) (maxL := 3) (ws' := fw_ws) (by decide +kernel) hn (Nat.le_of_ble_eq_true rfl) rfl ?_
  intro p e s m args below meth c A Q hC hN hA he
  have hF := hC.1
  have hw : ∀ w ∈ fw_ws, w.before args s = true := fun w hw => hF.2.2.2.2 w (List.mem_cons_of_mem _ hw)
  unfold fn_MD_message at h
  change fw_G p l e r_MD_message s m args below meth c 0 0 Q 3 D aC A g n K I 0 [(0, .ref (g k0)), (1, .int x1), (2, .int x2)] []
  refine fx_aload_n (pc' := 1) hF d_MD_message_0 rfl 0 rfl rfl ?_
  refine fx_iconst (pc' := 2) hF (v := (0 : Int32)) d_MD_message_1 rfl rfl ?_
  obtain ⟨I1, eI1, h⟩ := fw_let_some h
  refine fx_puti (pc' := 5) hC hk0 (by decide) rfl iw_MD 0 (by decide) (by decide) rfl ty_MD tyok_MD nn_MD rfl eI1 (tyok_MD 0 (by decide)) rfl rfl (hw _ wq_3_116) rfl d_MD_message_2 rfl ?_
  refine fx_aload_n (pc' := 6) hF d_MD_message_5 rfl 0 rfl rfl ?_
  refine fx_iload_n (pc' := 7) hF d_MD_message_6 rfl 1 rfl rfl ?_
  obtain ⟨r4, I2, c3, h⟩ := fw_bd_some h
  refine fx_callVi (pc' := 10) (As := [.int x1]) (st := []) hC hN hA hk0 (by decide) rfl (ct_MD_isMessage l D aC g n K I1 k0 x1 (r4, I2) hn hk0 c3) (cwV 1 hF.2.2.2.2 (fw_gV wq_3_200 wq_3_202 wsel_MD_isMessage wq_1_8 wq_3_203) rfl rfl rfl ⟨rfl, by decide +kernel, by decide +kernel, by decide +kernel⟩ ⟨Nat.le_of_ble_eq_true rfl, Nat.le_of_ble_eq_true rfl⟩) ⟨Nat.zero_le _, Nat.zero_le _⟩ rfl rfl (Nat.le_of_ble_eq_true rfl) d_MD_message_7 rfl ?_
  refine fx_if_eq hF (tgt := 37) (pc' := 13) d_MD_message_10 rfl rfl (fun q5 => ?_) (fun q5 => ?_)
  · rw [if_pos q5] at h
    refine fx_iconst (pc' := 38) hF (v := (-1 : Int32)) d_MD_message_37 rfl rfl ?_
    exact he I2 _ _ rfl _ d_MD_message_38 h
  · rw [if_neg q5] at h
    refine fx_iload_n (pc' := 14) hF d_MD_message_13 rfl 2 rfl rfl ?_
    refine fx_if_lt hF (tgt := 37) (pc' := 17) d_MD_message_14 rfl rfl (fun q6 => ?_) (fun q6 => ?_)
    · rw [if_pos q6] at h
      refine fx_iconst (pc' := 38) hF (v := (-1 : Int32)) d_MD_message_37 rfl rfl ?_
      exact he I2 _ _ rfl _ d_MD_message_38 h
    · rw [if_neg q6] at h
      refine fx_iload_n (pc' := 18) hF d_MD_message_17 rfl 2 rfl rfl ?_
      refine fx_bipush (pc' := 20) hF (v := (7 : Int32)) d_MD_message_18 rfl rfl ?_
      refine fx_icmp_ge hF (tgt := 37) (pc' := 23) d_MD_message_20 rfl rfl (fun q7 => ?_) (fun q7 => ?_)
      · rw [if_pos q7] at h
        refine fx_iconst (pc' := 38) hF (v := (-1 : Int32)) d_MD_message_37 rfl rfl ?_
        exact he I2 _ _ rfl _ d_MD_message_38 h
      · rw [if_neg q7] at h
        refine fx_aload_n (pc' := 24) hF d_MD_message_23 rfl 0 rfl rfl ?_
        obtain ⟨a8, na8, ea8, ka8, h⟩ := fw_ld_some h
        refine fx_getr (pc' := 27) hC hk0 (by decide) rfl iw_MD 13 (by decide) (by decide) rfl na8 ea8 (hw _ wq_3_129) rfl d_MD_message_24 rfl ?_
        refine fx_bipush (pc' := 29) hF (v := (7 : Int32)) d_MD_message_27 rfl rfl ?_
        refine fx_iload_n (pc' := 30) hF d_MD_message_29 rfl 1 rfl rfl ?_
        refine fx_imul (pc' := 31) hF d_MD_message_30 rfl ?_
        refine fx_iload_n (pc' := 32) hF d_MD_message_31 rfl 2 rfl rfl ?_
        refine fx_iadd (pc' := 33) hF d_MD_message_32 rfl ?_
        obtain ⟨q9, h⟩ := fw_gd_some h
        refine fx_iald (pc' := 34) hC ka8 q9 d_MD_message_33 rfl ?_
        refine fx_goto hF (tgt := 38) d_MD_message_34 rfl ?_
        exact he I2 _ _ rfl _ d_MD_message_38 h
set_option maxHeartbeats 4000000 in
set_option maxRecDepth 100000 in
theorem ct_MD_spread (l : Launch) (D : va_G) (aC : Nat → ClassId) (g : Nat → Nat) (n : Nat) (K : Nat → Nat × Nat) (I : Nat → Nat → Int32) (k0 : Nat) (x1 : Int32) (Rr : Int32 × (Nat → Nat → Int32)) (hn : ∀ k, (K k).1 < 99 → k < n) (hk0 : (K k0).1 = 6) (h : fn_MD_spread K I k0 x1 = some Rr) : fw_Mi l y_MD_spread w_MD_spread r_MD_spread D aC g n K I [.ref (g k0), .int x1] Rr := by
  refine fw_ofGi (cc := b_MD_spread) (maxL := 5) (ws' := fw_ws) (by decide +kernel) hn (Nat.le_of_ble_eq_true rfl) rfl ?_
  intro p e s m args below meth c A Q hC hN hA he
  have hF := hC.1
  have hw : ∀ w ∈ fw_ws, w.before args s = true := fun w hw => hF.2.2.2.2 w (List.mem_cons_of_mem _ hw)
  unfold fn_MD_spread at h
  have B4 : ∀ (f : Nat) (I : Nat → Nat → Int32) (x1 : Int32) (x2 : Int32) (x3 : Int32), fn_MD_spread_4 K f I k0 x1 x2 x3 = some Rr → fw_G p l e r_MD_spread s m args below meth c 0 0 Q 5 D aC A g n K I 4 [(0, .ref (g k0)), (1, .int x1), (2, .int x2), (3, .int x3)] [] := by
    intro f
    induction f with
    | zero =>
      intro I x1 x2 x3 h
      rw [fn_MD_spread_4] at h
      cases h
    | succ f ih =>
      intro I x1 x2 x3 h
      rw [fn_MD_spread_4] at h
      refine fx_iload_n (pc' := 5) hF d_MD_spread_4 rfl 3 rfl rfl ?_
      refine fx_aload_n (pc' := 6) hF d_MD_spread_5 rfl 0 rfl rfl ?_
      refine fx_geti (pc' := 9) hC hk0 (by decide) rfl iw_MD 2 (by decide) (by decide) rfl (hw _ wq_3_118) rfl d_MD_spread_6 rfl ?_
      refine fx_icmp_ge hF (tgt := 66) (pc' := 12) d_MD_spread_9 rfl rfl (fun q1 => ?_) (fun q1 => ?_)
      · rw [if_pos q1] at h
        refine fx_iload_n (pc' := 67) hF d_MD_spread_66 rfl 2 rfl rfl ?_
        exact he I _ _ rfl _ d_MD_spread_67 h
      · rw [if_neg q1] at h
        refine fx_iload_n (pc' := 13) hF d_MD_spread_12 rfl 1 rfl rfl ?_
        refine fx_iload_n (pc' := 14) hF d_MD_spread_13 rfl 3 rfl rfl ?_
        refine fx_iadd (pc' := 15) hF d_MD_spread_14 rfl ?_
        refine fx_aload_n (pc' := 16) hF d_MD_spread_15 rfl 0 rfl rfl ?_
        refine fx_geti (pc' := 19) hC hk0 (by decide) rfl iw_MD 1 (by decide) (by decide) rfl (hw _ wq_3_117) rfl d_MD_spread_16 rfl ?_
        obtain ⟨q2, h⟩ := fw_gd_some h
        refine fx_irem (pc' := 20) hF d_MD_spread_19 (of_decide_eq_true q2) rfl ?_
        refine fx_istore (pc' := 22) hF (lv' := [(4, .int ((x1 + x3) - (x1 + x3) / (I k0 1) * (I k0 1))), (0, .ref (g k0)), (1, .int x1), (2, .int x2), (3, .int x3)]) d_MD_spread_20 (by decide) rfl rfl ?_
        refine fx_aload_n (pc' := 23) hF d_MD_spread_22 rfl 1 rfl rfl ?_
        obtain ⟨a3, na3, ea3, ka3, h⟩ := fw_ld_some h
        refine fx_getr (pc' := 26) hC hk0 (by decide) rfl iw_MD 18 (by decide) (by decide) rfl na3 ea3 (hw _ wq_3_134) rfl d_MD_spread_23 rfl ?_
        refine fx_bipush (pc' := 28) hF (v := (20 : Int32)) d_MD_spread_26 rfl rfl ?_
        refine fx_iload (pc' := 30) hF d_MD_spread_28 0 rfl rfl ?_
        refine fx_imul (pc' := 31) hF d_MD_spread_30 rfl ?_
        refine fx_iload_n (pc' := 32) hF d_MD_spread_31 rfl 2 rfl rfl ?_
        refine fx_iadd (pc' := 33) hF d_MD_spread_32 rfl ?_
        obtain ⟨q4, h⟩ := fw_gd_some h
        refine fx_zald (pc' := 34) hC ka3 q4 d_MD_spread_33 rfl ?_
        refine fx_if_ne hF (tgt := 60) (pc' := 37) d_MD_spread_34 rfl rfl (fun q5 => ?_) (fun q5 => ?_)
        · rw [if_neg q5] at h
          refine fx_iinc (pc' := 63) hF (v := x3 + 1) (lv' := [(3, .int (x3 + 1)), (4, .int ((x1 + x3) - (x1 + x3) / (I k0 1) * (I k0 1))), (0, .ref (g k0)), (1, .int x1), (2, .int x2)]) d_MD_spread_60 4 rfl rfl (by decide) rfl rfl ?_
          refine fx_goto hF (tgt := 4) d_MD_spread_63 rfl ?_
          refine fx_lv [2, 3, 4, 0] rfl ?_
          exact ih I x1 x2 (x3 + 1) h
        · rw [if_pos q5] at h
          refine fx_aload_n (pc' := 38) hF d_MD_spread_37 rfl 1 rfl rfl ?_
          refine fx_iconst (pc' := 39) hF (v := (0 : Int32)) d_MD_spread_38 rfl rfl ?_
          refine fx_iconst (pc' := 40) hF (v := (0 : Int32)) d_MD_spread_39 rfl rfl ?_
          refine fx_iload (pc' := 42) hF d_MD_spread_40 0 rfl rfl ?_
          refine fx_iload_n (pc' := 43) hF d_MD_spread_42 rfl 2 rfl rfl ?_
          refine fx_aload_n (pc' := 44) hF d_MD_spread_43 rfl 1 rfl rfl ?_
          obtain ⟨a6, na6, ea6, ka6, h⟩ := fw_ld_some h
          refine fx_getr (pc' := 47) hC hk0 (by decide) rfl iw_MD 17 (by decide) (by decide) rfl na6 ea6 (hw _ wq_3_133) rfl d_MD_spread_44 rfl ?_
          refine fx_iload_n (pc' := 48) hF d_MD_spread_47 rfl 2 rfl rfl ?_
          obtain ⟨q7, h⟩ := fw_gd_some h
          refine fx_iald (pc' := 49) hC ka6 q7 d_MD_spread_48 rfl ?_
          refine fx_iconst (pc' := 50) hF (v := (0 : Int32)) d_MD_spread_49 rfl rfl ?_
          refine fx_aload_n (pc' := 51) hF d_MD_spread_50 rfl 1 rfl rfl ?_
          refine fx_geti (pc' := 54) hC hk0 (by decide) rfl iw_MD 16 (by decide) (by decide) rfl (hw _ wq_3_132) rfl d_MD_spread_51 rfl ?_
          obtain ⟨I8, c9, h⟩ := fw_bv_some h
          refine fx_callVv (pc' := 57) (As := [.int (0 : Int32), .int (0 : Int32), .int ((x1 + x3) - (x1 + x3) / (I k0 1) * (I k0 1)), .int x1, .int (I a6 x1.toNatClampNeg), .int (0 : Int32), .int (I k0 16)]) (st := []) hC hN hA hk0 (by decide) rfl (ct_MD_send l D aC g n K I k0 (0 : Int32) (0 : Int32) ((x1 + x3) - (x1 + x3) / (I k0 1) * (I k0 1)) x1 (I a6 x1.toNatClampNeg) (0 : Int32) (I k0 16) I8 hn hk0 c9) (cwV 7 hF.2.2.2.2 (fw_gV wq_3_212 wq_3_214 wsel_MD_send wq_1_8 wq_3_215) rfl rfl rfl ⟨rfl, by decide +kernel, by decide +kernel, by decide +kernel⟩ ⟨Nat.le_of_ble_eq_true rfl, Nat.le_of_ble_eq_true rfl⟩) ⟨Nat.zero_le _, Nat.zero_le _⟩ rfl rfl (Nat.le_of_ble_eq_true rfl) d_MD_spread_54 rfl ?_
          refine fx_iinc (pc' := 60) hF (v := x2 + 1) (lv' := [(2, .int (x2 + 1)), (4, .int ((x1 + x3) - (x1 + x3) / (I k0 1) * (I k0 1))), (0, .ref (g k0)), (1, .int x1), (3, .int x3)]) d_MD_spread_57 3 rfl rfl (by decide) rfl rfl ?_
          refine fx_iinc (pc' := 63) hF (v := x3 + 1) (lv' := [(3, .int (x3 + 1)), (2, .int (x2 + 1)), (4, .int ((x1 + x3) - (x1 + x3) / (I k0 1) * (I k0 1))), (0, .ref (g k0)), (1, .int x1)]) d_MD_spread_60 4 rfl rfl (by decide) rfl rfl ?_
          refine fx_goto hF (tgt := 4) d_MD_spread_63 rfl ?_
          refine fx_lv [3, 4, 1, 0] rfl ?_
          exact ih I8 x1 (x2 + 1) (x3 + 1) h
  change fw_G p l e r_MD_spread s m args below meth c 0 0 Q 5 D aC A g n K I 0 [(0, .ref (g k0)), (1, .int x1)] []
  refine fx_iconst (pc' := 1) hF (v := (0 : Int32)) d_MD_spread_0 rfl rfl ?_
  refine fx_istore_n (pc' := 2) hF (lv' := [(2, .int (0 : Int32)), (0, .ref (g k0)), (1, .int x1)]) d_MD_spread_1 rfl (by decide) rfl rfl ?_
  refine fx_iconst (pc' := 3) hF (v := (0 : Int32)) d_MD_spread_2 rfl rfl ?_
  refine fx_istore_n (pc' := 4) hF (lv' := [(3, .int (0 : Int32)), (2, .int (0 : Int32)), (0, .ref (g k0)), (1, .int x1)]) d_MD_spread_3 rfl (by decide) rfl rfl ?_
  refine fx_lv [2, 3, 1, 0] rfl ?_
  exact B4 200 I x1 (0 : Int32) (0 : Int32) h
set_option maxHeartbeats 4000000 in
set_option maxRecDepth 100000 in
theorem ct_MD_add (l : Launch) (D : va_G) (aC : Nat → ClassId) (g : Nat → Nat) (n : Nat) (K : Nat → Nat × Nat) (I : Nat → Nat → Int32) (k0 : Nat) (x1 : Int32) (Rr : Int32 × (Nat → Nat → Int32)) (hn : ∀ k, (K k).1 < 99 → k < n) (hk0 : (K k0).1 = 6) (h : fn_MD_add K I k0 x1 = some Rr) : fw_Mi l y_MD_add w_MD_add r_MD_add D aC g n K I [.ref (g k0), .int x1] Rr := by
  refine fw_ofGi (cc := b_MD_add) (maxL := 4) (ws' := fw_ws) (by decide +kernel) hn (Nat.le_of_ble_eq_true rfl) rfl ?_
  intro p e s m args below meth c A Q hC hN hA he
  have hF := hC.1
  have hw : ∀ w ∈ fw_ws, w.before args s = true := fun w hw => hF.2.2.2.2 w (List.mem_cons_of_mem _ hw)
  unfold fn_MD_add at h
  have B41 : ∀ (I : Nat → Nat → Int32) (x1 : Int32) (s1 : Int32), fn_MD_add_41 K I k0 x1 s1 = some Rr → fw_G p l e r_MD_add s m args below meth c 0 0 Q 4 D aC A g n K I 41 [(0, .ref (g k0)), (1, .int x1)] [.int s1, .ref (g k0)] := by
    intro I x1 s1 h
    unfold fn_MD_add_41 at h
    obtain ⟨I3, eI3, h⟩ := fw_let_some h
    refine fx_puti (pc' := 44) hC hk0 (by decide) rfl iw_MD 0 (by decide) (by decide) rfl ty_MD tyok_MD nn_MD rfl eI3 (tyok_MD 0 (by decide)) rfl rfl (hw _ wq_3_116) rfl d_MD_add_41 rfl ?_
    refine fx_aload_n (pc' := 45) hF d_MD_add_44 rfl 0 rfl rfl ?_
    refine fx_geti (pc' := 48) hC hk0 (by decide) rfl iw_MD 0 (by decide) (by decide) rfl (hw _ wq_3_116) rfl d_MD_add_45 rfl ?_
    refine fx_if_le hF (tgt := 53) (pc' := 51) d_MD_add_48 rfl rfl (fun q4 => ?_) (fun q4 => ?_)
    · rw [if_pos q4] at h
      refine fx_aload_n (pc' := 54) hF d_MD_add_53 rfl 0 rfl rfl ?_
      refine fx_geti (pc' := 57) hC hk0 (by decide) rfl iw_MD 15 (by decide) (by decide) rfl (hw _ wq_3_131) rfl d_MD_add_54 rfl ?_
      refine fx_istore_n (pc' := 58) hF (lv' := [(2, .int (I3 k0 15)), (0, .ref (g k0)), (1, .int x1)]) d_MD_add_57 rfl (by decide) rfl rfl ?_
      refine fx_aload_n (pc' := 59) hF d_MD_add_58 rfl 1 rfl rfl ?_
      obtain ⟨a5, na5, ea5, ka5, h⟩ := fw_ld_some h
      refine fx_getr (pc' := 62) hC hk0 (by decide) rfl iw_MD 17 (by decide) (by decide) rfl na5 ea5 (hw _ wq_3_133) rfl d_MD_add_59 rfl ?_
      refine fx_iload_n (pc' := 63) hF d_MD_add_62 rfl 0 rfl rfl ?_
      refine fx_iload_n (pc' := 64) hF d_MD_add_63 rfl 2 rfl rfl ?_
      obtain ⟨q6, h⟩ := fw_gd_some h
      obtain ⟨I7, eI7, h⟩ := fw_let_some h
      refine fx_iast (pc' := 65) hC ka5 q6 eI7 d_MD_add_64 rfl ?_
      refine fx_aload_n (pc' := 66) hF d_MD_add_65 rfl 1 rfl rfl ?_
      refine fx_dup (pc' := 67) hF d_MD_add_66 rfl rfl ?_
      refine fx_geti (pc' := 70) hC hk0 (by decide) rfl iw_MD 15 (by decide) (by decide) rfl (hw _ wq_3_131) rfl d_MD_add_67 rfl ?_
      refine fx_iconst (pc' := 71) hF (v := (1 : Int32)) d_MD_add_70 rfl rfl ?_
      refine fx_iadd (pc' := 72) hF d_MD_add_71 rfl ?_
      obtain ⟨I8, eI8, h⟩ := fw_let_some h
      refine fx_puti (pc' := 75) hC hk0 (by decide) rfl iw_MD 15 (by decide) (by decide) rfl ty_MD tyok_MD nn_MD rfl eI8 (tyok_MD 15 (by decide)) rfl rfl (hw _ wq_3_131) rfl d_MD_add_72 rfl ?_
      refine fx_aload_n (pc' := 76) hF d_MD_add_75 rfl 1 rfl rfl ?_
      refine fx_iload_n (pc' := 77) hF d_MD_add_76 rfl 0 rfl rfl ?_
      obtain ⟨r11, I9, c10, h⟩ := fw_bd_some h
      refine fx_callVi (pc' := 80) (As := [.int (I3 k0 15)]) (st := []) hC hN hA hk0 (by decide) rfl (ct_MD_spread l D aC g n K I8 k0 (I3 k0 15) (r11, I9) hn hk0 c10) (cwV 1 hF.2.2.2.2 (fw_gV wq_4_32 wq_4_34 wsel_MD_spread wq_1_8 wq_4_35) rfl rfl rfl ⟨rfl, by decide +kernel, by decide +kernel, by decide +kernel⟩ ⟨Nat.le_of_ble_eq_true rfl, Nat.le_of_ble_eq_true rfl⟩) ⟨Nat.zero_le _, Nat.zero_le _⟩ rfl rfl (Nat.le_of_ble_eq_true rfl) d_MD_add_77 rfl ?_
      refine fx_istore_n (pc' := 81) hF (lv' := [(3, .int r11), (2, .int (I3 k0 15)), (0, .ref (g k0)), (1, .int x1)]) d_MD_add_80 rfl (by decide) rfl rfl ?_
      refine fx_iload_n (pc' := 82) hF d_MD_add_81 rfl 1 rfl rfl ?_
      exact he I9 _ _ rfl _ d_MD_add_82 h
    · rw [if_neg q4] at h
      refine fx_iconst (pc' := 52) hF (v := (0 : Int32)) d_MD_add_51 rfl rfl ?_
      exact he I3 _ _ rfl _ d_MD_add_52 h
  have B36 : ∀ (I : Nat → Nat → Int32) (x1 : Int32), fn_MD_add_36 K I k0 x1 = some Rr → fw_G p l e r_MD_add s m args below meth c 0 0 Q 4 D aC A g n K I 36 [(0, .ref (g k0)), (1, .int x1)] [.ref (g k0)] := by
    intro I x1 h
    unfold fn_MD_add_36 at h
    refine fx_iconst (pc' := 37) hF (v := (2 : Int32)) d_MD_add_36 rfl rfl ?_
    refine fx_goto hF (tgt := 41) d_MD_add_37 rfl ?_
    exact B41 I x1 (2 : Int32) h
  change fw_G p l e r_MD_add s m args below meth c 0 0 Q 4 D aC A g n K I 0 [(0, .ref (g k0)), (1, .int x1)] []
  refine fx_aload_n (pc' := 1) hF d_MD_add_0 rfl 0 rfl rfl ?_
  refine fx_aload_n (pc' := 2) hF d_MD_add_1 rfl 0 rfl rfl ?_
  refine fx_geti (pc' := 5) hC hk0 (by decide) rfl iw_MD 14 (by decide) (by decide) rfl (hw _ wq_3_130) rfl d_MD_add_2 rfl ?_
  refine fx_if_eq hF (tgt := 12) (pc' := 8) d_MD_add_5 rfl rfl (fun q1 => ?_) (fun q1 => ?_)
  · rw [if_pos q1] at h
    refine fx_aload_n (pc' := 13) hF d_MD_add_12 rfl 0 rfl rfl ?_
    refine fx_geti (pc' := 16) hC hk0 (by decide) rfl iw_MD 15 (by decide) (by decide) rfl (hw _ wq_3_131) rfl d_MD_add_13 rfl ?_
    refine fx_bipush (pc' := 18) hF (v := (20 : Int32)) d_MD_add_16 rfl rfl ?_
    refine fx_icmp_eq hF (tgt := 36) (pc' := 21) d_MD_add_18 rfl rfl (fun q2 => ?_) (fun q2 => ?_)
    · rw [if_pos q2] at h
      exact B36 I x1 h
    · rw [if_neg q2] at h
      refine fx_aload_n (pc' := 22) hF d_MD_add_21 rfl 0 rfl rfl ?_
      refine fx_geti (pc' := 25) hC hk0 (by decide) rfl iw_MD 15 (by decide) (by decide) rfl (hw _ wq_3_131) rfl d_MD_add_22 rfl ?_
      refine fx_iconst (pc' := 26) hF (v := (1 : Int32)) d_MD_add_25 rfl rfl ?_
      refine fx_isub (pc' := 27) hF d_MD_add_26 rfl ?_
      refine fx_aload_n (pc' := 28) hF d_MD_add_27 rfl 0 rfl rfl ?_
      refine fx_geti (pc' := 31) hC hk0 (by decide) rfl iw_MD 16 (by decide) (by decide) rfl (hw _ wq_3_132) rfl d_MD_add_28 rfl ?_
      refine fx_isub (pc' := 32) hF d_MD_add_31 rfl ?_
      refine fx_iconst (pc' := 33) hF (v := (4 : Int32)) d_MD_add_32 rfl rfl ?_
      refine fx_icmp_lt hF (tgt := 40) (pc' := 36) d_MD_add_33 rfl rfl (fun q12 => ?_) (fun q12 => ?_)
      · rw [if_pos q12] at h
        refine fx_iconst (pc' := 41) hF (v := (0 : Int32)) d_MD_add_40 rfl rfl ?_
        exact B41 I x1 (0 : Int32) h
      · rw [if_neg q12] at h
        exact B36 I x1 h
  · rw [if_neg q1] at h
    refine fx_iconst (pc' := 9) hF (v := (1 : Int32)) d_MD_add_8 rfl rfl ?_
    refine fx_goto hF (tgt := 41) d_MD_add_9 rfl ?_
    exact B41 I x1 (1 : Int32) h
