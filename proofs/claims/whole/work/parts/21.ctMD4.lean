set_option maxHeartbeats 4000000 in
set_option maxRecDepth 100000 in
theorem ct_MD_ledger (l : Launch) (D : va_G) (aC : Nat → ClassId) (g : Nat → Nat) (n : Nat) (K : Nat → Nat × Nat) (I : Nat → Nat → Int32) (k0 : Nat) (x1 : Int32) (Rr : Int32 × (Nat → Nat → Int32)) (hn : ∀ k, (K k).1 < 99 → k < n) (hk0 : (K k0).1 = 6) (h : fn_MD_ledger K I k0 x1 = some Rr) : fw_Mi l y_MD_ledger w_MD_ledger r_MD_ledger D aC g n K I [.ref (g k0), .int x1] Rr := by
  refine fw_ofGi (cc := b_MD_ledger) (maxL := 2) (ws' := fw_ws) (by decide +kernel) hn (Nat.le_of_ble_eq_true rfl) rfl ?_
  intro p e s m args below meth c A Q hC hN hA he
  have hF := hC.1
  have hw : ∀ w ∈ fw_ws, w.before args s = true := fun w hw => hF.2.2.2.2 w (List.mem_cons_of_mem _ hw)
  unfold fn_MD_ledger at h
  change fw_G p l e r_MD_ledger s m args below meth c 0 0 Q 2 D aC A g n K I 0 [(0, .ref (g k0)), (1, .int x1)] []
  refine fx_aload_n (pc' := 1) hF d_MD_ledger_0 rfl 0 rfl rfl ?_
  refine fx_iconst (pc' := 2) hF (v := (0 : Int32)) d_MD_ledger_1 rfl rfl ?_
  obtain ⟨I1, eI1, h⟩ := fw_let_some h
  refine fx_puti (pc' := 5) hC hk0 (by decide) rfl iw_MD 0 (by decide) (by decide) rfl ty_MD tyok_MD nn_MD rfl eI1 (tyok_MD 0 (by decide)) rfl rfl (hw _ wq_3_116) rfl d_MD_ledger_2 rfl ?_
  refine fx_iload_n (pc' := 6) hF d_MD_ledger_5 rfl 1 rfl rfl ?_
  refine fx_if_ne hF (tgt := 16) (pc' := 9) d_MD_ledger_6 rfl rfl (fun q2 => ?_) (fun q2 => ?_)
  · rw [if_neg q2] at h
    refine fx_iload_n (pc' := 17) hF d_MD_ledger_16 rfl 1 rfl rfl ?_
    refine fx_iconst (pc' := 18) hF (v := (1 : Int32)) d_MD_ledger_17 rfl rfl ?_
    refine fx_icmp_ne hF (tgt := 28) (pc' := 21) d_MD_ledger_18 rfl rfl (fun q3 => ?_) (fun q3 => ?_)
    · rw [if_neg q3] at h
      refine fx_iload_n (pc' := 29) hF d_MD_ledger_28 rfl 1 rfl rfl ?_
      refine fx_iconst (pc' := 30) hF (v := (2 : Int32)) d_MD_ledger_29 rfl rfl ?_
      refine fx_icmp_ne hF (tgt := 48) (pc' := 33) d_MD_ledger_30 rfl rfl (fun q4 => ?_) (fun q4 => ?_)
      · rw [if_neg q4] at h
        refine fx_iconst (pc' := 49) hF (v := (-1 : Int32)) d_MD_ledger_48 rfl rfl ?_
        exact he I1 _ _ rfl _ d_MD_ledger_49 h
      · rw [if_pos q4] at h
        refine fx_aload_n (pc' := 34) hF d_MD_ledger_33 rfl 0 rfl rfl ?_
        refine fx_geti (pc' := 37) hC hk0 (by decide) rfl iw_MD 9 (by decide) (by decide) rfl (hw _ wq_3_125) rfl d_MD_ledger_34 rfl ?_
        refine fx_iconst (pc' := 38) hF (v := (2 : Int32)) d_MD_ledger_37 rfl rfl ?_
        refine fx_icmp_ne hF (tgt := 48) (pc' := 41) d_MD_ledger_38 rfl rfl (fun q5 => ?_) (fun q5 => ?_)
        · rw [if_neg q5] at h
          refine fx_iconst (pc' := 49) hF (v := (-1 : Int32)) d_MD_ledger_48 rfl rfl ?_
          exact he I1 _ _ rfl _ d_MD_ledger_49 h
        · rw [if_pos q5] at h
          refine fx_aload_n (pc' := 42) hF d_MD_ledger_41 rfl 0 rfl rfl ?_
          refine fx_geti (pc' := 45) hC hk0 (by decide) rfl iw_MD 11 (by decide) (by decide) rfl (hw _ wq_3_127) rfl d_MD_ledger_42 rfl ?_
          refine fx_goto hF (tgt := 49) d_MD_ledger_45 rfl ?_
          exact he I1 _ _ rfl _ d_MD_ledger_49 h
    · rw [if_pos q3] at h
      refine fx_aload_n (pc' := 22) hF d_MD_ledger_21 rfl 0 rfl rfl ?_
      refine fx_geti (pc' := 25) hC hk0 (by decide) rfl iw_MD 10 (by decide) (by decide) rfl (hw _ wq_3_126) rfl d_MD_ledger_22 rfl ?_
      refine fx_goto hF (tgt := 49) d_MD_ledger_25 rfl ?_
      exact he I1 _ _ rfl _ d_MD_ledger_49 h
  · rw [if_pos q2] at h
    refine fx_aload_n (pc' := 10) hF d_MD_ledger_9 rfl 0 rfl rfl ?_
    refine fx_geti (pc' := 13) hC hk0 (by decide) rfl iw_MD 9 (by decide) (by decide) rfl (hw _ wq_3_125) rfl d_MD_ledger_10 rfl ?_
    refine fx_goto hF (tgt := 49) d_MD_ledger_13 rfl ?_
    exact he I1 _ _ rfl _ d_MD_ledger_49 h
set_option maxHeartbeats 4000000 in
set_option maxRecDepth 100000 in
theorem ct_MD_read (l : Launch) (D : va_G) (aC : Nat → ClassId) (g : Nat → Nat) (n : Nat) (K : Nat → Nat × Nat) (I : Nat → Nat → Int32) (k0 : Nat) (x1 : Int32) (Rr : Int32 × (Nat → Nat → Int32)) (hn : ∀ k, (K k).1 < 99 → k < n) (hk0 : (K k0).1 = 6) (h : fn_MD_read K I k0 x1 = some Rr) : fw_Mi l y_MD_read w_MD_read r_MD_read D aC g n K I [.ref (g k0), .int x1] Rr := by
  refine fw_ofGi (cc := b_MD_read) (maxL := 4) (ws' := fw_ws) (by decide +kernel) hn (Nat.le_of_ble_eq_true rfl) rfl ?_
  intro p e s m args below meth c A Q hC hN hA he
  have hF := hC.1
  have hw : ∀ w ∈ fw_ws, w.before args s = true := fun w hw => hF.2.2.2.2 w (List.mem_cons_of_mem _ hw)
  unfold fn_MD_read at h
  have B45 : ∀ (f : Nat) (I : Nat → Nat → Int32) (x1 : Int32) (x2 : Int32), fn_MD_read_45 K f I k0 x1 x2 = some Rr → fw_G p l e r_MD_read s m args below meth c 0 0 Q 4 D aC A g n K I 45 [(0, .ref (g k0)), (1, .int x1), (2, .int x2)] [] := by
    intro f
    induction f with
    | zero =>
      intro I x1 x2 h
      rw [fn_MD_read_45] at h
      cases h
    | succ f ih =>
      intro I x1 x2 h
      rw [fn_MD_read_45] at h
      refine fx_iload_n (pc' := 46) hF d_MD_read_45 rfl 2 rfl rfl ?_
      refine fx_aload_n (pc' := 47) hF d_MD_read_46 rfl 0 rfl rfl ?_
      refine fx_geti (pc' := 50) hC hk0 (by decide) rfl iw_MD 2 (by decide) (by decide) rfl (hw _ wq_3_118) rfl d_MD_read_47 rfl ?_
      refine fx_icmp_ge hF (tgt := 108) (pc' := 53) d_MD_read_50 rfl rfl (fun q5 => ?_) (fun q5 => ?_)
      · rw [if_pos q5] at h
        refine fx_iconst (pc' := 109) hF (v := (0 : Int32)) d_MD_read_108 rfl rfl ?_
        exact he I _ _ rfl _ d_MD_read_109 h
      · rw [if_neg q5] at h
        refine fx_iload_n (pc' := 54) hF d_MD_read_53 rfl 1 rfl rfl ?_
        refine fx_iload_n (pc' := 55) hF d_MD_read_54 rfl 2 rfl rfl ?_
        refine fx_iadd (pc' := 56) hF d_MD_read_55 rfl ?_
        refine fx_aload_n (pc' := 57) hF d_MD_read_56 rfl 0 rfl rfl ?_
        refine fx_geti (pc' := 60) hC hk0 (by decide) rfl iw_MD 1 (by decide) (by decide) rfl (hw _ wq_3_117) rfl d_MD_read_57 rfl ?_
        obtain ⟨q6, h⟩ := fw_gd_some h
        refine fx_irem (pc' := 61) hF d_MD_read_60 (of_decide_eq_true q6) rfl ?_
        refine fx_istore_n (pc' := 62) hF (lv' := [(3, .int ((x1 + x2) - (x1 + x2) / (I k0 1) * (I k0 1))), (0, .ref (g k0)), (1, .int x1), (2, .int x2)]) d_MD_read_61 rfl (by decide) rfl rfl ?_
        refine fx_aload_n (pc' := 63) hF d_MD_read_62 rfl 1 rfl rfl ?_
        obtain ⟨a7, na7, ea7, ka7, h⟩ := fw_ld_some h
        refine fx_getr (pc' := 66) hC hk0 (by decide) rfl iw_MD 4 (by decide) (by decide) rfl na7 ea7 (hw _ wq_3_120) rfl d_MD_read_63 rfl ?_
        refine fx_iload_n (pc' := 67) hF d_MD_read_66 rfl 0 rfl rfl ?_
        obtain ⟨q8, h⟩ := fw_gd_some h
        refine fx_zald (pc' := 68) hC ka7 q8 d_MD_read_67 rfl ?_
        refine fx_if_ne hF (tgt := 102) (pc' := 71) d_MD_read_68 rfl rfl (fun q9 => ?_) (fun q9 => ?_)
        · rw [if_neg q9] at h
          refine fx_iinc (pc' := 105) hF (v := x2 + 1) (lv' := [(2, .int (x2 + 1)), (3, .int ((x1 + x2) - (x1 + x2) / (I k0 1) * (I k0 1))), (0, .ref (g k0)), (1, .int x1)]) d_MD_read_102 3 rfl rfl (by decide) rfl rfl ?_
          refine fx_goto hF (tgt := 45) d_MD_read_105 rfl ?_
          refine fx_lv [2, 3, 0] rfl ?_
          exact ih I x1 (x2 + 1) h
        · rw [if_pos q9] at h
          refine fx_aload_n (pc' := 72) hF d_MD_read_71 rfl 1 rfl rfl ?_
          obtain ⟨a10, na10, ea10, ka10, h⟩ := fw_ld_some h
          refine fx_getr (pc' := 75) hC hk0 (by decide) rfl iw_MD 7 (by decide) (by decide) rfl na10 ea10 (hw _ wq_3_123) rfl d_MD_read_72 rfl ?_
          refine fx_bipush (pc' := 77) hF (v := (20 : Int32)) d_MD_read_75 rfl rfl ?_
          refine fx_iload_n (pc' := 78) hF d_MD_read_77 rfl 0 rfl rfl ?_
          refine fx_imul (pc' := 79) hF d_MD_read_78 rfl ?_
          refine fx_iload_n (pc' := 80) hF d_MD_read_79 rfl 2 rfl rfl ?_
          refine fx_iadd (pc' := 81) hF d_MD_read_80 rfl ?_
          obtain ⟨q11, h⟩ := fw_gd_some h
          refine fx_zald (pc' := 82) hC ka10 q11 d_MD_read_81 rfl ?_
          refine fx_if_eq hF (tgt := 102) (pc' := 85) d_MD_read_82 rfl rfl (fun q12 => ?_) (fun q12 => ?_)
          · rw [if_pos q12] at h
            refine fx_iinc (pc' := 105) hF (v := x2 + 1) (lv' := [(2, .int (x2 + 1)), (3, .int ((x1 + x2) - (x1 + x2) / (I k0 1) * (I k0 1))), (0, .ref (g k0)), (1, .int x1)]) d_MD_read_102 3 rfl rfl (by decide) rfl rfl ?_
            refine fx_goto hF (tgt := 45) d_MD_read_105 rfl ?_
            refine fx_lv [2, 3, 0] rfl ?_
            exact ih I x1 (x2 + 1) h
          · rw [if_neg q12] at h
            refine fx_aload_n (pc' := 86) hF d_MD_read_85 rfl 1 rfl rfl ?_
            refine fx_iconst (pc' := 87) hF (v := (0 : Int32)) d_MD_read_86 rfl rfl ?_
            obtain ⟨I13, eI13, h⟩ := fw_let_some h
            refine fx_puti (pc' := 90) hC hk0 (by decide) rfl iw_MD 0 (by decide) (by decide) rfl ty_MD tyok_MD nn_MD rfl eI13 (tyok_MD 0 (by decide)) rfl rfl (hw _ wq_3_116) rfl d_MD_read_87 rfl ?_
            refine fx_aload_n (pc' := 91) hF d_MD_read_90 rfl 1 rfl rfl ?_
            obtain ⟨a14, na14, ea14, ka14, h⟩ := fw_ld_some h
            refine fx_getr (pc' := 94) hC hk0 (by decide) rfl iw_MD 8 (by decide) (by decide) rfl na14 ea14 (hw _ wq_3_124) rfl d_MD_read_91 rfl ?_
            refine fx_bipush (pc' := 96) hF (v := (20 : Int32)) d_MD_read_94 rfl rfl ?_
            refine fx_iload_n (pc' := 97) hF d_MD_read_96 rfl 0 rfl rfl ?_
            refine fx_imul (pc' := 98) hF d_MD_read_97 rfl ?_
            refine fx_iload_n (pc' := 99) hF d_MD_read_98 rfl 2 rfl rfl ?_
            refine fx_iadd (pc' := 100) hF d_MD_read_99 rfl ?_
            obtain ⟨q15, h⟩ := fw_gd_some h
            refine fx_iald (pc' := 101) hC ka14 q15 d_MD_read_100 rfl ?_
            exact he I13 _ _ rfl _ d_MD_read_101 h
  have B30 : ∀ (I : Nat → Nat → Int32) (x1 : Int32) (s1 : Int32), fn_MD_read_30 K I k0 x1 s1 = some Rr → fw_G p l e r_MD_read s m args below meth c 0 0 Q 4 D aC A g n K I 30 [(0, .ref (g k0)), (1, .int x1)] [.int s1, .ref (g k0)] := by
    intro I x1 s1 h
    unfold fn_MD_read_30 at h
    obtain ⟨I3, eI3, h⟩ := fw_let_some h
    refine fx_puti (pc' := 33) hC hk0 (by decide) rfl iw_MD 0 (by decide) (by decide) rfl ty_MD tyok_MD nn_MD rfl eI3 (tyok_MD 0 (by decide)) rfl rfl (hw _ wq_3_116) rfl d_MD_read_30 rfl ?_
    refine fx_aload_n (pc' := 34) hF d_MD_read_33 rfl 0 rfl rfl ?_
    refine fx_geti (pc' := 37) hC hk0 (by decide) rfl iw_MD 0 (by decide) (by decide) rfl (hw _ wq_3_116) rfl d_MD_read_34 rfl ?_
    refine fx_iconst (pc' := 38) hF (v := (3 : Int32)) d_MD_read_37 rfl rfl ?_
    refine fx_icmp_ge hF (tgt := 43) (pc' := 41) d_MD_read_38 rfl rfl (fun q4 => ?_) (fun q4 => ?_)
    · rw [if_pos q4] at h
      refine fx_iconst (pc' := 44) hF (v := (0 : Int32)) d_MD_read_43 rfl rfl ?_
      refine fx_istore_n (pc' := 45) hF (lv' := [(2, .int (0 : Int32)), (0, .ref (g k0)), (1, .int x1)]) d_MD_read_44 rfl (by decide) rfl rfl ?_
      refine fx_lv [1, 2, 0] rfl ?_
      exact B45 200 I3 x1 (0 : Int32) h
    · rw [if_neg q4] at h
      refine fx_iconst (pc' := 42) hF (v := (0 : Int32)) d_MD_read_41 rfl rfl ?_
      exact he I3 _ _ rfl _ d_MD_read_42 h
  have B25 : ∀ (I : Nat → Nat → Int32) (x1 : Int32), fn_MD_read_25 K I k0 x1 = some Rr → fw_G p l e r_MD_read s m args below meth c 0 0 Q 4 D aC A g n K I 25 [(0, .ref (g k0)), (1, .int x1)] [.ref (g k0)] := by
    intro I x1 h
    unfold fn_MD_read_25 at h
    refine fx_iconst (pc' := 26) hF (v := (2 : Int32)) d_MD_read_25 rfl rfl ?_
    refine fx_goto hF (tgt := 30) d_MD_read_26 rfl ?_
    exact B30 I x1 (2 : Int32) h
  change fw_G p l e r_MD_read s m args below meth c 0 0 Q 4 D aC A g n K I 0 [(0, .ref (g k0)), (1, .int x1)] []
  refine fx_aload_n (pc' := 1) hF d_MD_read_0 rfl 0 rfl rfl ?_
  refine fx_aload_n (pc' := 2) hF d_MD_read_1 rfl 0 rfl rfl ?_
  refine fx_geti (pc' := 5) hC hk0 (by decide) rfl iw_MD 9 (by decide) (by decide) rfl (hw _ wq_3_125) rfl d_MD_read_2 rfl ?_
  refine fx_iconst (pc' := 6) hF (v := (2 : Int32)) d_MD_read_5 rfl rfl ?_
  refine fx_icmp_eq hF (tgt := 13) (pc' := 9) d_MD_read_6 rfl rfl (fun q1 => ?_) (fun q1 => ?_)
  · rw [if_pos q1] at h
    refine fx_iload_n (pc' := 14) hF d_MD_read_13 rfl 1 rfl rfl ?_
    refine fx_if_lt hF (tgt := 25) (pc' := 17) d_MD_read_14 rfl rfl (fun q2 => ?_) (fun q2 => ?_)
    · rw [if_pos q2] at h
      exact B25 I x1 h
    · rw [if_neg q2] at h
      refine fx_iload_n (pc' := 18) hF d_MD_read_17 rfl 1 rfl rfl ?_
      refine fx_aload_n (pc' := 19) hF d_MD_read_18 rfl 0 rfl rfl ?_
      refine fx_geti (pc' := 22) hC hk0 (by decide) rfl iw_MD 11 (by decide) (by decide) rfl (hw _ wq_3_127) rfl d_MD_read_19 rfl ?_
      refine fx_icmp_le hF (tgt := 29) (pc' := 25) d_MD_read_22 rfl rfl (fun q16 => ?_) (fun q16 => ?_)
      · rw [if_pos q16] at h
        refine fx_iconst (pc' := 30) hF (v := (3 : Int32)) d_MD_read_29 rfl rfl ?_
        exact B30 I x1 (3 : Int32) h
      · rw [if_neg q16] at h
        exact B25 I x1 h
  · rw [if_neg q1] at h
    refine fx_iconst (pc' := 10) hF (v := (1 : Int32)) d_MD_read_9 rfl rfl ?_
    refine fx_goto hF (tgt := 30) d_MD_read_10 rfl ?_
    exact B30 I x1 (1 : Int32) h
