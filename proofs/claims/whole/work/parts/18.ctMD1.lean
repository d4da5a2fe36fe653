set_option maxHeartbeats 4000000 in
set_option maxRecDepth 100000 in
theorem ct_MD_thrown (l : Launch) (D : va_G) (aC : Nat → ClassId) (g : Nat → Nat) (n : Nat) (K : Nat → Nat × Nat) (I : Nat → Nat → Int32) (k0 : Nat) (Rr : Int32 × (Nat → Nat → Int32)) (hn : ∀ k, (K k).1 < 99 → k < n) (hk0 : (K k0).1 = 6) (h : fn_MD_thrown K I k0 = some Rr) : fw_Mi l y_MD_thrown w_MD_thrown r_MD_thrown D aC g n K I [.ref (g k0)] Rr := by
  refine fw_ofGi (cc := b_MD_thrown) (maxL := 1) (ws' := fw_ws) (by decide +kernel) hn (Nat.le_of_ble_eq_true rfl) rfl ?_
  intro p e s m args below meth c A Q hC hN hA he
  have hF := hC.1
  have hw : ∀ w ∈ fw_ws, w.before args s = true := fun w hw => hF.2.2.2.2 w (List.mem_cons_of_mem _ hw)
  unfold fn_MD_thrown at h
  change fw_G p l e r_MD_thrown s m args below meth c 0 0 Q 1 D aC A g n K I 0 [(0, .ref (g k0))] []
  refine fx_aload_n (pc' := 1) hF d_MD_thrown_0 rfl 0 rfl rfl ?_
  refine fx_geti (pc' := 4) hC hk0 (by decide) rfl iw_MD 0 (by decide) (by decide) rfl (hw _ wq_3_116) rfl d_MD_thrown_1 rfl ?_
  exact he I _ _ rfl _ d_MD_thrown_4 h
set_option maxHeartbeats 4000000 in
set_option maxRecDepth 100000 in
theorem ct_MD_send (l : Launch) (D : va_G) (aC : Nat → ClassId) (g : Nat → Nat) (n : Nat) (K : Nat → Nat × Nat) (I : Nat → Nat → Int32) (k0 : Nat) (x1 : Int32) (x2 : Int32) (x3 : Int32) (x4 : Int32) (x5 : Int32) (x6 : Int32) (x7 : Int32) (Rr : Nat → Nat → Int32) (hn : ∀ k, (K k).1 < 99 → k < n) (hk0 : (K k0).1 = 6) (h : fn_MD_send K I k0 x1 x2 x3 x4 x5 x6 x7 = some Rr) : fw_Mv l y_MD_send w_MD_send r_MD_send D aC g n K I [.ref (g k0), .int x1, .int x2, .int x3, .int x4, .int x5, .int x6, .int x7] Rr := by
  refine fw_ofGv (cc := b_MD_send) (maxL := 9) (ws' := fw_ws) (by decide +kernel) hn (Nat.le_of_ble_eq_true rfl) rfl ?_
  intro p e s m args below meth c A Q hC hN hA he
  have hF := hC.1
  have hw : ∀ w ∈ fw_ws, w.before args s = true := fun w hw => hF.2.2.2.2 w (List.mem_cons_of_mem _ hw)
  unfold fn_MD_send at h
  change fw_G p l e r_MD_send s m args below meth c 0 0 Q 9 D aC A g n K I 0 [(0, .ref (g k0)), (1, .int x1), (2, .int x2), (3, .int x3), (4, .int x4), (5, .int x5), (6, .int x6), (7, .int x7)] []
  refine fx_aload_n (pc' := 1) hF d_MD_send_0 rfl 0 rfl rfl ?_
  refine fx_geti (pc' := 4) hC hk0 (by decide) rfl iw_MD 12 (by decide) (by decide) rfl (hw _ wq_3_128) rfl d_MD_send_1 rfl ?_
  refine fx_bipush (pc' := 6) hF (v := (20 : Int32)) d_MD_send_4 rfl rfl ?_
  refine fx_icmp_ne hF (tgt := 10) (pc' := 9) d_MD_send_6 rfl rfl (fun q1 => ?_) (fun q1 => ?_)
  · rw [if_neg q1] at h
    refine fx_bipush (pc' := 12) hF (v := (7 : Int32)) d_MD_send_10 rfl rfl ?_
    refine fx_aload_n (pc' := 13) hF d_MD_send_12 rfl 0 rfl rfl ?_
    refine fx_geti (pc' := 16) hC hk0 (by decide) rfl iw_MD 12 (by decide) (by decide) rfl (hw _ wq_3_128) rfl d_MD_send_13 rfl ?_
    refine fx_imul (pc' := 17) hF d_MD_send_16 rfl ?_
    refine fx_istore (pc' := 19) hF (lv' := [(8, .int ((7 : Int32) * (I k0 12))), (0, .ref (g k0)), (1, .int x1), (2, .int x2), (3, .int x3), (4, .int x4), (5, .int x5), (6, .int x6), (7, .int x7)]) d_MD_send_17 (by decide) rfl rfl ?_
    refine fx_aload_n (pc' := 20) hF d_MD_send_19 rfl 1 rfl rfl ?_
    obtain ⟨a2, na2, ea2, ka2, h⟩ := fw_ld_some h
    refine fx_getr (pc' := 23) hC hk0 (by decide) rfl iw_MD 13 (by decide) (by decide) rfl na2 ea2 (hw _ wq_3_129) rfl d_MD_send_20 rfl ?_
    refine fx_iload (pc' := 25) hF d_MD_send_23 0 rfl rfl ?_
    refine fx_iload_n (pc' := 26) hF d_MD_send_25 rfl 2 rfl rfl ?_
    obtain ⟨q3, h⟩ := fw_gd_some h
    obtain ⟨I4, eI4, h⟩ := fw_let_some h
    refine fx_iast (pc' := 27) hC ka2 q3 eI4 d_MD_send_26 rfl ?_
    refine fx_aload_n (pc' := 28) hF d_MD_send_27 rfl 1 rfl rfl ?_
    obtain ⟨a5, na5, ea5, ka5, h⟩ := fw_ld_some h
    refine fx_getr (pc' := 31) hC hk0 (by decide) rfl iw_MD 13 (by decide) (by decide) rfl na5 ea5 (hw _ wq_3_129) rfl d_MD_send_28 rfl ?_
    refine fx_iload (pc' := 33) hF d_MD_send_31 0 rfl rfl ?_
    refine fx_iconst (pc' := 34) hF (v := (1 : Int32)) d_MD_send_33 rfl rfl ?_
    refine fx_iadd (pc' := 35) hF d_MD_send_34 rfl ?_
    refine fx_iload_n (pc' := 36) hF d_MD_send_35 rfl 3 rfl rfl ?_
    obtain ⟨q6, h⟩ := fw_gd_some h
    obtain ⟨I7, eI7, h⟩ := fw_let_some h
    refine fx_iast (pc' := 37) hC ka5 q6 eI7 d_MD_send_36 rfl ?_
    refine fx_aload_n (pc' := 38) hF d_MD_send_37 rfl 1 rfl rfl ?_
    obtain ⟨a8, na8, ea8, ka8, h⟩ := fw_ld_some h
    refine fx_getr (pc' := 41) hC hk0 (by decide) rfl iw_MD 13 (by decide) (by decide) rfl na8 ea8 (hw _ wq_3_129) rfl d_MD_send_38 rfl ?_
    refine fx_iload (pc' := 43) hF d_MD_send_41 0 rfl rfl ?_
    refine fx_iconst (pc' := 44) hF (v := (2 : Int32)) d_MD_send_43 rfl rfl ?_
    refine fx_iadd (pc' := 45) hF d_MD_send_44 rfl ?_
    refine fx_iload_n (pc' := 46) hF d_MD_send_45 rfl 4 rfl rfl ?_
    obtain ⟨q9, h⟩ := fw_gd_some h
    obtain ⟨I10, eI10, h⟩ := fw_let_some h
    refine fx_iast (pc' := 47) hC ka8 q9 eI10 d_MD_send_46 rfl ?_
    refine fx_aload_n (pc' := 48) hF d_MD_send_47 rfl 1 rfl rfl ?_
    obtain ⟨a11, na11, ea11, ka11, h⟩ := fw_ld_some h
    refine fx_getr (pc' := 51) hC hk0 (by decide) rfl iw_MD 13 (by decide) (by decide) rfl na11 ea11 (hw _ wq_3_129) rfl d_MD_send_48 rfl ?_
    refine fx_iload (pc' := 53) hF d_MD_send_51 0 rfl rfl ?_
    refine fx_iconst (pc' := 54) hF (v := (3 : Int32)) d_MD_send_53 rfl rfl ?_
    refine fx_iadd (pc' := 55) hF d_MD_send_54 rfl ?_
    refine fx_iload (pc' := 57) hF d_MD_send_55 5 rfl rfl ?_
    obtain ⟨q12, h⟩ := fw_gd_some h
    obtain ⟨I13, eI13, h⟩ := fw_let_some h
    refine fx_iast (pc' := 58) hC ka11 q12 eI13 d_MD_send_57 rfl ?_
    refine fx_aload_n (pc' := 59) hF d_MD_send_58 rfl 1 rfl rfl ?_
    obtain ⟨a14, na14, ea14, ka14, h⟩ := fw_ld_some h
    refine fx_getr (pc' := 62) hC hk0 (by decide) rfl iw_MD 13 (by decide) (by decide) rfl na14 ea14 (hw _ wq_3_129) rfl d_MD_send_59 rfl ?_
    refine fx_iload (pc' := 64) hF d_MD_send_62 0 rfl rfl ?_
    refine fx_iconst (pc' := 65) hF (v := (4 : Int32)) d_MD_send_64 rfl rfl ?_
    refine fx_iadd (pc' := 66) hF d_MD_send_65 rfl ?_
    refine fx_iload (pc' := 68) hF d_MD_send_66 6 rfl rfl ?_
    obtain ⟨q15, h⟩ := fw_gd_some h
    obtain ⟨I16, eI16, h⟩ := fw_let_some h
    refine fx_iast (pc' := 69) hC ka14 q15 eI16 d_MD_send_68 rfl ?_
    refine fx_aload_n (pc' := 70) hF d_MD_send_69 rfl 1 rfl rfl ?_
    obtain ⟨a17, na17, ea17, ka17, h⟩ := fw_ld_some h
    refine fx_getr (pc' := 73) hC hk0 (by decide) rfl iw_MD 13 (by decide) (by decide) rfl na17 ea17 (hw _ wq_3_129) rfl d_MD_send_70 rfl ?_
    refine fx_iload (pc' := 75) hF d_MD_send_73 0 rfl rfl ?_
    refine fx_iconst (pc' := 76) hF (v := (5 : Int32)) d_MD_send_75 rfl rfl ?_
    refine fx_iadd (pc' := 77) hF d_MD_send_76 rfl ?_
    refine fx_iload (pc' := 79) hF d_MD_send_77 7 rfl rfl ?_
    obtain ⟨q18, h⟩ := fw_gd_some h
    obtain ⟨I19, eI19, h⟩ := fw_let_some h
    refine fx_iast (pc' := 80) hC ka17 q18 eI19 d_MD_send_79 rfl ?_
    refine fx_aload_n (pc' := 81) hF d_MD_send_80 rfl 1 rfl rfl ?_
    obtain ⟨a20, na20, ea20, ka20, h⟩ := fw_ld_some h
    refine fx_getr (pc' := 84) hC hk0 (by decide) rfl iw_MD 13 (by decide) (by decide) rfl na20 ea20 (hw _ wq_3_129) rfl d_MD_send_81 rfl ?_
    refine fx_iload (pc' := 86) hF d_MD_send_84 0 rfl rfl ?_
    refine fx_bipush (pc' := 88) hF (v := (6 : Int32)) d_MD_send_86 rfl rfl ?_
    refine fx_iadd (pc' := 89) hF d_MD_send_88 rfl ?_
    refine fx_iload (pc' := 91) hF d_MD_send_89 8 rfl rfl ?_
    obtain ⟨q21, h⟩ := fw_gd_some h
    obtain ⟨I22, eI22, h⟩ := fw_let_some h
    refine fx_iast (pc' := 92) hC ka20 q21 eI22 d_MD_send_91 rfl ?_
    refine fx_aload_n (pc' := 93) hF d_MD_send_92 rfl 1 rfl rfl ?_
    refine fx_dup (pc' := 94) hF d_MD_send_93 rfl rfl ?_
    refine fx_geti (pc' := 97) hC hk0 (by decide) rfl iw_MD 12 (by decide) (by decide) rfl (hw _ wq_3_128) rfl d_MD_send_94 rfl ?_
    refine fx_iconst (pc' := 98) hF (v := (1 : Int32)) d_MD_send_97 rfl rfl ?_
    refine fx_iadd (pc' := 99) hF d_MD_send_98 rfl ?_
    obtain ⟨I23, eI23, h⟩ := fw_let_some h
    refine fx_puti (pc' := 102) hC hk0 (by decide) rfl iw_MD 12 (by decide) (by decide) rfl ty_MD tyok_MD nn_MD rfl eI23 (tyok_MD 12 (by decide)) rfl rfl (hw _ wq_3_128) rfl d_MD_send_99 rfl ?_
    exact he I23 _ _ d_MD_send_102 h
  · rw [if_pos q1] at h
    exact he I _ _ d_MD_send_9 h
set_option maxHeartbeats 4000000 in
set_option maxRecDepth 100000 in
theorem ct_MD_remove (l : Launch) (D : va_G) (aC : Nat → ClassId) (g : Nat → Nat) (n : Nat) (K : Nat → Nat × Nat) (I : Nat → Nat → Int32) (k0 : Nat) (x1 : Int32) (Rr : Nat → Nat → Int32) (hn : ∀ k, (K k).1 < 99 → k < n) (hk0 : (K k0).1 = 6) (h : fn_MD_remove K I k0 x1 = some Rr) : fw_Mv l y_MD_remove w_MD_remove r_MD_remove D aC g n K I [.ref (g k0), .int x1] Rr := by
  refine fw_ofGv (cc := b_MD_remove) (maxL := 3) (ws' := fw_ws) (by decide +kernel) hn (Nat.le_of_ble_eq_true rfl) rfl ?_
  intro p e s m args below meth c A Q hC hN hA he
  have hF := hC.1
  have hw : ∀ w ∈ fw_ws, w.before args s = true := fun w hw => hF.2.2.2.2 w (List.mem_cons_of_mem _ hw)
  unfold fn_MD_remove at h
  have B15 : ∀ (f : Nat) (I : Nat → Nat → Int32) (x2 : Int32), fn_MD_remove_15 K f I k0 x2 = some Rr → fw_G p l e r_MD_remove s m args below meth c 0 0 Q 3 D aC A g n K I 15 [(0, .ref (g k0)), (2, .int x2)] [] := by
    intro f
    induction f with
    | zero =>
      intro I x2 h
      rw [fn_MD_remove_15] at h
      cases h
    | succ f ih =>
      intro I x2 h
      rw [fn_MD_remove_15] at h
      refine fx_iload_n (pc' := 16) hF d_MD_remove_15 rfl 1 rfl rfl ?_
      refine fx_bipush (pc' := 18) hF (v := (7 : Int32)) d_MD_remove_16 rfl rfl ?_
      refine fx_aload_n (pc' := 19) hF d_MD_remove_18 rfl 0 rfl rfl ?_
      refine fx_geti (pc' := 22) hC hk0 (by decide) rfl iw_MD 12 (by decide) (by decide) rfl (hw _ wq_3_128) rfl d_MD_remove_19 rfl ?_
      refine fx_imul (pc' := 23) hF d_MD_remove_22 rfl ?_
      refine fx_icmp_ge hF (tgt := 47) (pc' := 26) d_MD_remove_23 rfl rfl (fun q2 => ?_) (fun q2 => ?_)
      · rw [if_pos q2] at h
        exact he I _ _ d_MD_remove_47 h
      · rw [if_neg q2] at h
        refine fx_aload_n (pc' := 27) hF d_MD_remove_26 rfl 0 rfl rfl ?_
        obtain ⟨a3, na3, ea3, ka3, h⟩ := fw_ld_some h
        refine fx_getr (pc' := 30) hC hk0 (by decide) rfl iw_MD 13 (by decide) (by decide) rfl na3 ea3 (hw _ wq_3_129) rfl d_MD_remove_27 rfl ?_
        refine fx_iload_n (pc' := 31) hF d_MD_remove_30 rfl 1 rfl rfl ?_
        refine fx_aload_n (pc' := 32) hF d_MD_remove_31 rfl 0 rfl rfl ?_
        obtain ⟨a4, na4, ea4, ka4, h⟩ := fw_ld_some h
        refine fx_getr (pc' := 35) hC hk0 (by decide) rfl iw_MD 13 (by decide) (by decide) rfl na4 ea4 (hw _ wq_3_129) rfl d_MD_remove_32 rfl ?_
        refine fx_iload_n (pc' := 36) hF d_MD_remove_35 rfl 1 rfl rfl ?_
        refine fx_bipush (pc' := 38) hF (v := (7 : Int32)) d_MD_remove_36 rfl rfl ?_
        refine fx_iadd (pc' := 39) hF d_MD_remove_38 rfl ?_
        obtain ⟨q5, h⟩ := fw_gd_some h
        refine fx_iald (pc' := 40) hC ka4 q5 d_MD_remove_39 rfl ?_
        obtain ⟨q6, h⟩ := fw_gd_some h
        obtain ⟨I7, eI7, h⟩ := fw_let_some h
        refine fx_iast (pc' := 41) hC ka3 q6 eI7 d_MD_remove_40 rfl ?_
        refine fx_iinc (pc' := 44) hF (v := x2 + 1) (lv' := [(2, .int (x2 + 1)), (0, .ref (g k0))]) d_MD_remove_41 1 rfl rfl (by decide) rfl rfl ?_
        refine fx_goto hF (tgt := 15) d_MD_remove_44 rfl ?_
        refine fx_lv [1, 0] rfl ?_
        exact ih I7 (x2 + 1) h
  change fw_G p l e r_MD_remove s m args below meth c 0 0 Q 3 D aC A g n K I 0 [(0, .ref (g k0)), (1, .int x1)] []
  refine fx_aload_n (pc' := 1) hF d_MD_remove_0 rfl 0 rfl rfl ?_
  refine fx_dup (pc' := 2) hF d_MD_remove_1 rfl rfl ?_
  refine fx_geti (pc' := 5) hC hk0 (by decide) rfl iw_MD 12 (by decide) (by decide) rfl (hw _ wq_3_128) rfl d_MD_remove_2 rfl ?_
  refine fx_iconst (pc' := 6) hF (v := (1 : Int32)) d_MD_remove_5 rfl rfl ?_
  refine fx_isub (pc' := 7) hF d_MD_remove_6 rfl ?_
  obtain ⟨I1, eI1, h⟩ := fw_let_some h
  refine fx_puti (pc' := 10) hC hk0 (by decide) rfl iw_MD 12 (by decide) (by decide) rfl ty_MD tyok_MD nn_MD rfl eI1 (tyok_MD 12 (by decide)) rfl rfl (hw _ wq_3_128) rfl d_MD_remove_7 rfl ?_
  refine fx_bipush (pc' := 12) hF (v := (7 : Int32)) d_MD_remove_10 rfl rfl ?_
  refine fx_iload_n (pc' := 13) hF d_MD_remove_12 rfl 1 rfl rfl ?_
  refine fx_imul (pc' := 14) hF d_MD_remove_13 rfl ?_
  refine fx_istore_n (pc' := 15) hF (lv' := [(2, .int ((7 : Int32) * x1)), (0, .ref (g k0)), (1, .int x1)]) d_MD_remove_14 rfl (by decide) rfl rfl ?_
  refine fx_lv [1, 0] rfl ?_
  exact B15 200 I1 ((7 : Int32) * x1) h
set_option maxHeartbeats 4000000 in
set_option maxRecDepth 100000 in
theorem ct_MD_isMessage (l : Launch) (D : va_G) (aC : Nat → ClassId) (g : Nat → Nat) (n : Nat) (K : Nat → Nat × Nat) (I : Nat → Nat → Int32) (k0 : Nat) (x1 : Int32) (Rr : Int32 × (Nat → Nat → Int32)) (hn : ∀ k, (K k).1 < 99 → k < n) (hk0 : (K k0).1 = 6) (h : fn_MD_isMessage K I k0 x1 = some Rr) : fw_Mi l y_MD_isMessage w_MD_isMessage r_MD_isMessage D aC g n K I [.ref (g k0), .int x1] Rr := by
  refine fw_ofGi (cc := b_MD_isMessage) (maxL := 2) (ws' := fw_ws) (by decide +kernel) hn (Nat.le_of_ble_eq_true rfl) rfl ?_
  intro p e s m args below meth c A Q hC hN hA he
  have hF := hC.1
  have hw : ∀ w ∈ fw_ws, w.before args s = true := fun w hw => hF.2.2.2.2 w (List.mem_cons_of_mem _ hw)
  unfold fn_MD_isMessage at h
  change fw_G p l e r_MD_isMessage s m args below meth c 0 0 Q 2 D aC A g n K I 0 [(0, .ref (g k0)), (1, .int x1)] []
  refine fx_iload_n (pc' := 1) hF d_MD_isMessage_0 rfl 1 rfl rfl ?_
  refine fx_if_lt hF (tgt := 16) (pc' := 4) d_MD_isMessage_1 rfl rfl (fun q1 => ?_) (fun q1 => ?_)
  · rw [if_pos q1] at h
    refine fx_iconst (pc' := 17) hF (v := (0 : Int32)) d_MD_isMessage_16 rfl rfl ?_
    exact he I _ _ rfl _ d_MD_isMessage_17 h
  · rw [if_neg q1] at h
    refine fx_iload_n (pc' := 5) hF d_MD_isMessage_4 rfl 1 rfl rfl ?_
    refine fx_aload_n (pc' := 6) hF d_MD_isMessage_5 rfl 0 rfl rfl ?_
    refine fx_geti (pc' := 9) hC hk0 (by decide) rfl iw_MD 12 (by decide) (by decide) rfl (hw _ wq_3_128) rfl d_MD_isMessage_6 rfl ?_
    refine fx_icmp_ge hF (tgt := 16) (pc' := 12) d_MD_isMessage_9 rfl rfl (fun q2 => ?_) (fun q2 => ?_)
    · rw [if_pos q2] at h
      refine fx_iconst (pc' := 17) hF (v := (0 : Int32)) d_MD_isMessage_16 rfl rfl ?_
      exact he I _ _ rfl _ d_MD_isMessage_17 h
    · rw [if_neg q2] at h
      refine fx_iconst (pc' := 13) hF (v := (1 : Int32)) d_MD_isMessage_12 rfl rfl ?_
      refine fx_goto hF (tgt := 17) d_MD_isMessage_13 rfl ?_
      exact he I _ _ rfl _ d_MD_isMessage_17 h
set_option maxHeartbeats 4000000 in
set_option maxRecDepth 100000 in
theorem ct_MD_answerCount (l : Launch) (D : va_G) (aC : Nat → ClassId) (g : Nat → Nat) (n : Nat) (K : Nat → Nat × Nat) (I : Nat → Nat → Int32) (k0 : Nat) (x1 : Int32) (Rr : Int32 × (Nat → Nat → Int32)) (hn : ∀ k, (K k).1 < 99 → k < n) (hk0 : (K k0).1 = 6) (h : fn_MD_answerCount K I k0 x1 = some Rr) : fw_Mi l y_MD_answerCount w_MD_answerCount r_MD_answerCount D aC g n K I [.ref (g k0), .int x1] Rr := by
  refine fw_ofGi (cc := b_MD_answerCount) (maxL := 4) (ws' := fw_ws) (by decide +kernel) hn (Nat.le_of_ble_eq_true rfl) rfl ?_
  intro p e s m args below meth c A Q hC hN hA he
  have hF := hC.1
  have hw : ∀ w ∈ fw_ws, w.before args s = true := fun w hw => hF.2.2.2.2 w (List.mem_cons_of_mem _ hw)
  unfold fn_MD_answerCount at h
  have B4 : ∀ (f : Nat) (I : Nat → Nat → Int32) (x1 : Int32) (x2 : Int32) (x3 : Int32), fn_MD_answerCount_4 K f I k0 x1 x2 x3 = some Rr → fw_G p l e r_MD_answerCount s m args below meth c 0 0 Q 4 D aC A g n K I 4 [(0, .ref (g k0)), (1, .int x1), (2, .int x2), (3, .int x3)] [] := by
    intro f
    induction f with
    | zero =>
      intro I x1 x2 x3 h
      rw [fn_MD_answerCount_4] at h
      cases h
    | succ f ih =>
      intro I x1 x2 x3 h
      rw [fn_MD_answerCount_4] at h
      refine fx_iload_n (pc' := 5) hF d_MD_answerCount_4 rfl 3 rfl rfl ?_
      refine fx_aload_n (pc' := 6) hF d_MD_answerCount_5 rfl 0 rfl rfl ?_
      refine fx_geti (pc' := 9) hC hk0 (by decide) rfl iw_MD 1 (by decide) (by decide) rfl (hw _ wq_3_117) rfl d_MD_answerCount_6 rfl ?_
      refine fx_icmp_ge hF (tgt := 39) (pc' := 12) d_MD_answerCount_9 rfl rfl (fun q1 => ?_) (fun q1 => ?_)
      · rw [if_pos q1] at h
        refine fx_iload_n (pc' := 40) hF d_MD_answerCount_39 rfl 2 rfl rfl ?_
        exact he I _ _ rfl _ d_MD_answerCount_40 h
      · rw [if_neg q1] at h
        refine fx_iload_n (pc' := 13) hF d_MD_answerCount_12 rfl 2 rfl rfl ?_
        refine fx_aload_n (pc' := 14) hF d_MD_answerCount_13 rfl 0 rfl rfl ?_
        obtain ⟨a2, na2, ea2, ka2, h⟩ := fw_ld_some h
        refine fx_getr (pc' := 17) hC hk0 (by decide) rfl iw_MD 24 (by decide) (by decide) rfl na2 ea2 (hw _ wq_3_140) rfl d_MD_answerCount_14 rfl ?_
        refine fx_iconst (pc' := 18) hF (v := (5 : Int32)) d_MD_answerCount_17 rfl rfl ?_
        refine fx_iload_n (pc' := 19) hF d_MD_answerCount_18 rfl 1 rfl rfl ?_
        refine fx_imul (pc' := 20) hF d_MD_answerCount_19 rfl ?_
        refine fx_iload_n (pc' := 21) hF d_MD_answerCount_20 rfl 3 rfl rfl ?_
        refine fx_iadd (pc' := 22) hF d_MD_answerCount_21 rfl ?_
        obtain ⟨q3, h⟩ := fw_gd_some h
        refine fx_zald (pc' := 23) hC ka2 q3 d_MD_answerCount_22 rfl ?_
        refine fx_if_eq hF (tgt := 30) (pc' := 26) d_MD_answerCount_23 rfl rfl (fun q4 => ?_) (fun q4 => ?_)
        · rw [if_pos q4] at h
          refine fx_iconst (pc' := 31) hF (v := (0 : Int32)) d_MD_answerCount_30 rfl rfl ?_
          refine fx_iadd (pc' := 32) hF d_MD_answerCount_31 rfl ?_
          refine fx_istore_n (pc' := 33) hF (lv' := [(2, .int (x2 + (0 : Int32))), (0, .ref (g k0)), (1, .int x1), (3, .int x3)]) d_MD_answerCount_32 rfl (by decide) rfl rfl ?_
          refine fx_iinc (pc' := 36) hF (v := x3 + 1) (lv' := [(3, .int (x3 + 1)), (2, .int (x2 + (0 : Int32))), (0, .ref (g k0)), (1, .int x1)]) d_MD_answerCount_33 3 rfl rfl (by decide) rfl rfl ?_
          refine fx_goto hF (tgt := 4) d_MD_answerCount_36 rfl ?_
          refine fx_lv [2, 3, 1, 0] rfl ?_
          exact ih I x1 (x2 + (0 : Int32)) (x3 + 1) h
        · rw [if_neg q4] at h
          refine fx_iconst (pc' := 27) hF (v := (1 : Int32)) d_MD_answerCount_26 rfl rfl ?_
          refine fx_goto hF (tgt := 31) d_MD_answerCount_27 rfl ?_
          refine fx_iadd (pc' := 32) hF d_MD_answerCount_31 rfl ?_
          refine fx_istore_n (pc' := 33) hF (lv' := [(2, .int (x2 + (1 : Int32))), (0, .ref (g k0)), (1, .int x1), (3, .int x3)]) d_MD_answerCount_32 rfl (by decide) rfl rfl ?_
          refine fx_iinc (pc' := 36) hF (v := x3 + 1) (lv' := [(3, .int (x3 + 1)), (2, .int (x2 + (1 : Int32))), (0, .ref (g k0)), (1, .int x1)]) d_MD_answerCount_33 3 rfl rfl (by decide) rfl rfl ?_
          refine fx_goto hF (tgt := 4) d_MD_answerCount_36 rfl ?_
          refine fx_lv [2, 3, 1, 0] rfl ?_
          exact ih I x1 (x2 + (1 : Int32)) (x3 + 1) h
  change fw_G p l e r_MD_answerCount s m args below meth c 0 0 Q 4 D aC A g n K I 0 [(0, .ref (g k0)), (1, .int x1)] []
  refine fx_iconst (pc' := 1) hF (v := (0 : Int32)) d_MD_answerCount_0 rfl rfl ?_
  refine fx_istore_n (pc' := 2) hF (lv' := [(2, .int (0 : Int32)), (0, .ref (g k0)), (1, .int x1)]) d_MD_answerCount_1 rfl (by decide) rfl rfl ?_
  refine fx_iconst (pc' := 3) hF (v := (0 : Int32)) d_MD_answerCount_2 rfl rfl ?_
  refine fx_istore_n (pc' := 4) hF (lv' := [(3, .int (0 : Int32)), (2, .int (0 : Int32)), (0, .ref (g k0)), (1, .int x1)]) d_MD_answerCount_3 rfl (by decide) rfl rfl ?_
  refine fx_lv [2, 3, 1, 0] rfl ?_
  exact B4 200 I x1 (0 : Int32) (0 : Int32) h
set_option maxHeartbeats 4000000 in
set_option maxRecDepth 100000 in
theorem ct_MD_forget (l : Launch) (D : va_G) (aC : Nat → ClassId) (g : Nat → Nat) (n : Nat) (K : Nat → Nat × Nat) (I : Nat → Nat → Int32) (k0 : Nat) (x1 : Int32) (Rr : Nat → Nat → Int32) (hn : ∀ k, (K k).1 < 99 → k < n) (hk0 : (K k0).1 = 6) (h : fn_MD_forget K I k0 x1 = some Rr) : fw_Mv l y_MD_forget w_MD_forget r_MD_forget D aC g n K I [.ref (g k0), .int x1] Rr := by
  refine fw_ofGv (cc := b_MD_forget) (maxL := 3) (ws' := fw_ws) (by decide +kernel) hn (Nat.le_of_ble_eq_true rfl) rfl ?_
  intro p e s m args below meth c A Q hC hN hA he
  have hF := hC.1
  have hw : ∀ w ∈ fw_ws, w.before args s = true := fun w hw => hF.2.2.2.2 w (List.mem_cons_of_mem _ hw)
  unfold fn_MD_forget at h
  have B2 : ∀ (f : Nat) (I : Nat → Nat → Int32) (x1 : Int32) (x2 : Int32), fn_MD_forget_2 K f I k0 x1 x2 = some Rr → fw_G p l e r_MD_forget s m args below meth c 0 0 Q 3 D aC A g n K I 2 [(0, .ref (g k0)), (1, .int x1), (2, .int x2)] [] := by
    intro f
    induction f with
    | zero =>
      intro I x1 x2 h
      rw [fn_MD_forget_2] at h
      cases h
    | succ f ih =>
      intro I x1 x2 h
      rw [fn_MD_forget_2] at h
      refine fx_iload_n (pc' := 3) hF d_MD_forget_2 rfl 2 rfl rfl ?_
      refine fx_iconst (pc' := 4) hF (v := (5 : Int32)) d_MD_forget_3 rfl rfl ?_
      refine fx_icmp_ge hF (tgt := 24) (pc' := 7) d_MD_forget_4 rfl rfl (fun q1 => ?_) (fun q1 => ?_)
      · rw [if_pos q1] at h
        exact he I _ _ d_MD_forget_24 h
      · rw [if_neg q1] at h
        refine fx_aload_n (pc' := 8) hF d_MD_forget_7 rfl 0 rfl rfl ?_
        obtain ⟨a2, na2, ea2, ka2, h⟩ := fw_ld_some h
        refine fx_getr (pc' := 11) hC hk0 (by decide) rfl iw_MD 24 (by decide) (by decide) rfl na2 ea2 (hw _ wq_3_140) rfl d_MD_forget_8 rfl ?_
        refine fx_iconst (pc' := 12) hF (v := (5 : Int32)) d_MD_forget_11 rfl rfl ?_
        refine fx_iload_n (pc' := 13) hF d_MD_forget_12 rfl 1 rfl rfl ?_
        refine fx_imul (pc' := 14) hF d_MD_forget_13 rfl ?_
        refine fx_iload_n (pc' := 15) hF d_MD_forget_14 rfl 2 rfl rfl ?_
        refine fx_iadd (pc' := 16) hF d_MD_forget_15 rfl ?_
        refine fx_iconst (pc' := 17) hF (v := (0 : Int32)) d_MD_forget_16 rfl rfl ?_
        obtain ⟨q3, h⟩ := fw_gd_some h
        obtain ⟨I4, eI4, h⟩ := fw_let_some h
        refine fx_zast (pc' := 18) hC ka2 q3 rfl eI4 d_MD_forget_17 rfl ?_
        refine fx_iinc (pc' := 21) hF (v := x2 + 1) (lv' := [(2, .int (x2 + 1)), (0, .ref (g k0)), (1, .int x1)]) d_MD_forget_18 2 rfl rfl (by decide) rfl rfl ?_
        refine fx_goto hF (tgt := 2) d_MD_forget_21 rfl ?_
        refine fx_lv [1, 2, 0] rfl ?_
        exact ih I4 x1 (x2 + 1) h
  change fw_G p l e r_MD_forget s m args below meth c 0 0 Q 3 D aC A g n K I 0 [(0, .ref (g k0)), (1, .int x1)] []
  refine fx_iconst (pc' := 1) hF (v := (0 : Int32)) d_MD_forget_0 rfl rfl ?_
  refine fx_istore_n (pc' := 2) hF (lv' := [(2, .int (0 : Int32)), (0, .ref (g k0)), (1, .int x1)]) d_MD_forget_1 rfl (by decide) rfl rfl ?_
  refine fx_lv [1, 2, 0] rfl ?_
  exact B2 200 I x1 (0 : Int32) h
set_option maxHeartbeats 4000000 in
set_option maxRecDepth 100000 in
theorem ct_MD_ask (l : Launch) (D : va_G) (aC : Nat → ClassId) (g : Nat → Nat) (n : Nat) (K : Nat → Nat × Nat) (I : Nat → Nat → Int32) (k0 : Nat) (x1 : Int32) (Rr : Int32 × (Nat → Nat → Int32)) (hn : ∀ k, (K k).1 < 99 → k < n) (hk0 : (K k0).1 = 6) (h : fn_MD_ask K I k0 x1 = some Rr) : fw_Mi l y_MD_ask w_MD_ask r_MD_ask D aC g n K I [.ref (g k0), .int x1] Rr := by
  refine fw_ofGi (cc := b_MD_ask) (maxL := 6) (ws' := fw_ws) (by decide +kernel) hn (Nat.le_of_ble_eq_true rfl) rfl ?_
  intro p e s m args below meth c A Q hC hN hA he
  have hF := hC.1
  have hw : ∀ w ∈ fw_ws, w.before args s = true := fun w hw => hF.2.2.2.2 w (List.mem_cons_of_mem _ hw)
  unfold fn_MD_ask at h
  have B27 : ∀ (f : Nat) (I : Nat → Nat → Int32) (x1 : Int32) (x2 : Int32) (x3 : Int32) (x4 : Int32), fn_MD_ask_27 K f I k0 x1 x2 x3 x4 = some Rr → fw_G p l e r_MD_ask s m args below meth c 0 0 Q 6 D aC A g n K I 27 [(0, .ref (g k0)), (1, .int x1), (2, .int x2), (3, .int x3), (4, .int x4)] [] := by
    intro f
    induction f with
    | zero =>
      intro I x1 x2 x3 x4 h
      rw [fn_MD_ask_27] at h
      cases h
    | succ f ih =>
      intro I x1 x2 x3 x4 h
      rw [fn_MD_ask_27] at h
      refine fx_iload (pc' := 29) hF d_MD_ask_27 4 rfl rfl ?_
      refine fx_iload_n (pc' := 30) hF d_MD_ask_29 rfl 3 rfl rfl ?_
      refine fx_icmp_ge hF (tgt := 186) (pc' := 33) d_MD_ask_30 rfl rfl (fun q4 => ?_) (fun q4 => ?_)
      · rw [if_pos q4] at h
        refine fx_iload_n (pc' := 187) hF d_MD_ask_186 rfl 2 rfl rfl ?_
        exact he I _ _ rfl _ d_MD_ask_187 h
      · rw [if_neg q4] at h
        refine fx_aload_n (pc' := 34) hF d_MD_ask_33 rfl 0 rfl rfl ?_
        obtain ⟨a5, na5, ea5, ka5, h⟩ := fw_ld_some h
        refine fx_getr (pc' := 37) hC hk0 (by decide) rfl iw_MD 19 (by decide) (by decide) rfl na5 ea5 (hw _ wq_3_135) rfl d_MD_ask_34 rfl ?_
        refine fx_iload_n (pc' := 38) hF d_MD_ask_37 rfl 1 rfl rfl ?_
        obtain ⟨q6, h⟩ := fw_gd_some h
        refine fx_iald (pc' := 39) hC ka5 q6 d_MD_ask_38 rfl ?_
        refine fx_iconst (pc' := 40) hF (v := (1 : Int32)) d_MD_ask_39 rfl rfl ?_
        refine fx_icmp_ne hF (tgt := 48) (pc' := 43) d_MD_ask_40 rfl rfl (fun q7 => ?_) (fun q7 => ?_)
        · rw [if_neg q7] at h
          refine fx_aload_n (pc' := 49) hF d_MD_ask_48 rfl 0 rfl rfl ?_
          obtain ⟨a8, na8, ea8, ka8, h⟩ := fw_ld_some h
          refine fx_getr (pc' := 52) hC hk0 (by decide) rfl iw_MD 21 (by decide) (by decide) rfl na8 ea8 (hw _ wq_3_137) rfl d_MD_ask_49 rfl ?_
          refine fx_iload_n (pc' := 53) hF d_MD_ask_52 rfl 1 rfl rfl ?_
          obtain ⟨q9, h⟩ := fw_gd_some h
          refine fx_iald (pc' := 54) hC ka8 q9 d_MD_ask_53 rfl ?_
          refine fx_iload (pc' := 56) hF d_MD_ask_54 4 rfl rfl ?_
          refine fx_iadd (pc' := 57) hF d_MD_ask_56 rfl ?_
          refine fx_aload_n (pc' := 58) hF d_MD_ask_57 rfl 0 rfl rfl ?_
          refine fx_geti (pc' := 61) hC hk0 (by decide) rfl iw_MD 1 (by decide) (by decide) rfl (hw _ wq_3_117) rfl d_MD_ask_58 rfl ?_
          obtain ⟨q10, h⟩ := fw_gd_some h
          refine fx_irem (pc' := 62) hF d_MD_ask_61 (of_decide_eq_true q10) rfl ?_
          refine fx_istore (pc' := 64) hF (lv' := [(5, .int (((I a8 x1.toNatClampNeg) + x4) - ((I a8 x1.toNatClampNeg) + x4) / (I k0 1) * (I k0 1))), (0, .ref (g k0)), (1, .int x1), (2, .int x2), (3, .int x3), (4, .int x4)]) d_MD_ask_62 (by decide) rfl rfl ?_
          refine fx_aload_n (pc' := 65) hF d_MD_ask_64 rfl 1 rfl rfl ?_
          obtain ⟨a11, na11, ea11, ka11, h⟩ := fw_ld_some h
          refine fx_getr (pc' := 68) hC hk0 (by decide) rfl iw_MD 24 (by decide) (by decide) rfl na11 ea11 (hw _ wq_3_140) rfl d_MD_ask_65 rfl ?_
          refine fx_iconst (pc' := 69) hF (v := (5 : Int32)) d_MD_ask_68 rfl rfl ?_
          refine fx_iload_n (pc' := 70) hF d_MD_ask_69 rfl 2 rfl rfl ?_
          refine fx_imul (pc' := 71) hF d_MD_ask_70 rfl ?_
          refine fx_iload (pc' := 73) hF d_MD_ask_71 0 rfl rfl ?_
          refine fx_iadd (pc' := 74) hF d_MD_ask_73 rfl ?_
          obtain ⟨q12, h⟩ := fw_gd_some h
          refine fx_zald (pc' := 75) hC ka11 q12 d_MD_ask_74 rfl ?_
          refine fx_if_ne hF (tgt := 180) (pc' := 78) d_MD_ask_75 rfl rfl (fun q13 => ?_) (fun q13 => ?_)
          · rw [if_neg q13] at h
            refine fx_iinc (pc' := 183) hF (v := x4 + 1) (lv' := [(4, .int (x4 + 1)), (5, .int (((I a8 x1.toNatClampNeg) + x4) - ((I a8 x1.toNatClampNeg) + x4) / (I k0 1) * (I k0 1))), (0, .ref (g k0)), (1, .int x1), (2, .int x2), (3, .int x3)]) d_MD_ask_180 5 rfl rfl (by decide) rfl rfl ?_
            refine fx_goto hF (tgt := 27) d_MD_ask_183 rfl ?_
            refine fx_lv [2, 3, 4, 5, 0] rfl ?_
            exact ih I x1 x2 x3 (x4 + 1) h
          · rw [if_pos q13] at h
            refine fx_aload_n (pc' := 79) hF d_MD_ask_78 rfl 1 rfl rfl ?_
            obtain ⟨a14, na14, ea14, ka14, h⟩ := fw_ld_some h
            refine fx_getr (pc' := 82) hC hk0 (by decide) rfl iw_MD 19 (by decide) (by decide) rfl na14 ea14 (hw _ wq_3_135) rfl d_MD_ask_79 rfl ?_
            refine fx_iload_n (pc' := 83) hF d_MD_ask_82 rfl 2 rfl rfl ?_
            obtain ⟨q15, h⟩ := fw_gd_some h
            refine fx_iald (pc' := 84) hC ka14 q15 d_MD_ask_83 rfl ?_
            refine fx_iconst (pc' := 85) hF (v := (1 : Int32)) d_MD_ask_84 rfl rfl ?_
            refine fx_icmp_ne hF (tgt := 108) (pc' := 88) d_MD_ask_85 rfl rfl (fun q16 => ?_) (fun q16 => ?_)
            · rw [if_neg q16] at h
              refine fx_aload_n (pc' := 109) hF d_MD_ask_108 rfl 1 rfl rfl ?_
              obtain ⟨a17, na17, ea17, ka17, h⟩ := fw_ld_some h
              refine fx_getr (pc' := 112) hC hk0 (by decide) rfl iw_MD 19 (by decide) (by decide) rfl na17 ea17 (hw _ wq_3_135) rfl d_MD_ask_109 rfl ?_
              refine fx_iload_n (pc' := 113) hF d_MD_ask_112 rfl 2 rfl rfl ?_
              obtain ⟨q18, h⟩ := fw_gd_some h
              refine fx_iald (pc' := 114) hC ka17 q18 d_MD_ask_113 rfl ?_
              refine fx_iconst (pc' := 115) hF (v := (2 : Int32)) d_MD_ask_114 rfl rfl ?_
              refine fx_icmp_ne hF (tgt := 143) (pc' := 118) d_MD_ask_115 rfl rfl (fun q19 => ?_) (fun q19 => ?_)
              · rw [if_neg q19] at h
                refine fx_aload_n (pc' := 144) hF d_MD_ask_143 rfl 1 rfl rfl ?_
                refine fx_iconst (pc' := 145) hF (v := (0 : Int32)) d_MD_ask_144 rfl rfl ?_
                refine fx_iload_n (pc' := 146) hF d_MD_ask_145 rfl 2 rfl rfl ?_
                refine fx_iload (pc' := 148) hF d_MD_ask_146 0 rfl rfl ?_
                refine fx_aload_n (pc' := 149) hF d_MD_ask_148 rfl 1 rfl rfl ?_
                obtain ⟨a20, na20, ea20, ka20, h⟩ := fw_ld_some h
                refine fx_getr (pc' := 152) hC hk0 (by decide) rfl iw_MD 21 (by decide) (by decide) rfl na20 ea20 (hw _ wq_3_137) rfl d_MD_ask_149 rfl ?_
                refine fx_iload_n (pc' := 153) hF d_MD_ask_152 rfl 2 rfl rfl ?_
                obtain ⟨q21, h⟩ := fw_gd_some h
                refine fx_iald (pc' := 154) hC ka20 q21 d_MD_ask_153 rfl ?_
                refine fx_aload_n (pc' := 155) hF d_MD_ask_154 rfl 1 rfl rfl ?_
                obtain ⟨a22, na22, ea22, ka22, h⟩ := fw_ld_some h
                refine fx_getr (pc' := 158) hC hk0 (by decide) rfl iw_MD 23 (by decide) (by decide) rfl na22 ea22 (hw _ wq_3_139) rfl d_MD_ask_155 rfl ?_
                refine fx_iload_n (pc' := 159) hF d_MD_ask_158 rfl 2 rfl rfl ?_
                obtain ⟨q23, h⟩ := fw_gd_some h
                refine fx_iald (pc' := 160) hC ka22 q23 d_MD_ask_159 rfl ?_
                refine fx_aload_n (pc' := 161) hF d_MD_ask_160 rfl 1 rfl rfl ?_
                obtain ⟨a24, na24, ea24, ka24, h⟩ := fw_ld_some h
                refine fx_getr (pc' := 164) hC hk0 (by decide) rfl iw_MD 20 (by decide) (by decide) rfl na24 ea24 (hw _ wq_3_136) rfl d_MD_ask_161 rfl ?_
                refine fx_iload_n (pc' := 165) hF d_MD_ask_164 rfl 2 rfl rfl ?_
                obtain ⟨q25, h⟩ := fw_gd_some h
                refine fx_iald (pc' := 166) hC ka24 q25 d_MD_ask_165 rfl ?_
                refine fx_aload_n (pc' := 167) hF d_MD_ask_166 rfl 1 rfl rfl ?_
                obtain ⟨a26, na26, ea26, ka26, h⟩ := fw_ld_some h
                refine fx_getr (pc' := 170) hC hk0 (by decide) rfl iw_MD 21 (by decide) (by decide) rfl na26 ea26 (hw _ wq_3_137) rfl d_MD_ask_167 rfl ?_
                refine fx_iload_n (pc' := 171) hF d_MD_ask_170 rfl 2 rfl rfl ?_
                obtain ⟨q27, h⟩ := fw_gd_some h
                refine fx_iald (pc' := 172) hC ka26 q27 d_MD_ask_171 rfl ?_
                refine fx_iconst (pc' := 173) hF (v := (1 : Int32)) d_MD_ask_172 rfl rfl ?_
                refine fx_isub (pc' := 174) hF d_MD_ask_173 rfl ?_
                obtain ⟨I28, c29, h⟩ := fw_bv_some h
                refine fx_callVv (pc' := 177) (As := [.int (0 : Int32), .int x1, .int (((I a8 x1.toNatClampNeg) + x4) - ((I a8 x1.toNatClampNeg) + x4) / (I k0 1) * (I k0 1)), .int (I a20 x1.toNatClampNeg), .int (I a22 x1.toNatClampNeg), .int (I a24 x1.toNatClampNeg), .int ((I a26 x1.toNatClampNeg) - (1 : Int32))]) (st := []) hC hN hA hk0 (by decide) rfl (ct_MD_send l D aC g n K I k0 (0 : Int32) x1 (((I a8 x1.toNatClampNeg) + x4) - ((I a8 x1.toNatClampNeg) + x4) / (I k0 1) * (I k0 1)) (I a20 x1.toNatClampNeg) (I a22 x1.toNatClampNeg) (I a24 x1.toNatClampNeg) ((I a26 x1.toNatClampNeg) - (1 : Int32)) I28 hn hk0 c29) (cwV 7 hF.2.2.2.2 (fw_gV wq_3_212 wq_3_214 wsel_MD_send wq_1_8 wq_3_215) rfl rfl rfl ⟨rfl, by decide +kernel, by decide +kernel, by decide +kernel⟩ ⟨Nat.le_of_ble_eq_true rfl, Nat.le_of_ble_eq_true rfl⟩) ⟨Nat.zero_le _, Nat.zero_le _⟩ rfl rfl (Nat.le_of_ble_eq_true rfl) d_MD_ask_174 rfl ?_
                refine fx_iinc (pc' := 180) hF (v := x2 + 1) (lv' := [(2, .int (x2 + 1)), (5, .int (((I a8 x1.toNatClampNeg) + x4) - ((I a8 x1.toNatClampNeg) + x4) / (I k0 1) * (I k0 1))), (0, .ref (g k0)), (1, .int x1), (3, .int x3), (4, .int x4)]) d_MD_ask_177 3 rfl rfl (by decide) rfl rfl ?_
                refine fx_iinc (pc' := 183) hF (v := x4 + 1) (lv' := [(4, .int (x4 + 1)), (2, .int (x2 + 1)), (5, .int (((I a8 x1.toNatClampNeg) + x4) - ((I a8 x1.toNatClampNeg) + x4) / (I k0 1) * (I k0 1))), (0, .ref (g k0)), (1, .int x1), (3, .int x3)]) d_MD_ask_180 5 rfl rfl (by decide) rfl rfl ?_
                refine fx_goto hF (tgt := 27) d_MD_ask_183 rfl ?_
                refine fx_lv [3, 4, 1, 5, 0] rfl ?_
                exact ih I28 x1 (x2 + 1) x3 (x4 + 1) h
              · rw [if_pos q19] at h
                refine fx_aload_n (pc' := 119) hF d_MD_ask_118 rfl 1 rfl rfl ?_
                refine fx_iconst (pc' := 120) hF (v := (2 : Int32)) d_MD_ask_119 rfl rfl ?_
                refine fx_iload_n (pc' := 121) hF d_MD_ask_120 rfl 2 rfl rfl ?_
                refine fx_iload (pc' := 123) hF d_MD_ask_121 0 rfl rfl ?_
                refine fx_aload_n (pc' := 124) hF d_MD_ask_123 rfl 1 rfl rfl ?_
                obtain ⟨a30, na30, ea30, ka30, h⟩ := fw_ld_some h
                refine fx_getr (pc' := 127) hC hk0 (by decide) rfl iw_MD 21 (by decide) (by decide) rfl na30 ea30 (hw _ wq_3_137) rfl d_MD_ask_124 rfl ?_
                refine fx_iload_n (pc' := 128) hF d_MD_ask_127 rfl 2 rfl rfl ?_
                obtain ⟨q31, h⟩ := fw_gd_some h
                refine fx_iald (pc' := 129) hC ka30 q31 d_MD_ask_128 rfl ?_
                refine fx_iconst (pc' := 130) hF (v := (0 : Int32)) d_MD_ask_129 rfl rfl ?_
                refine fx_aload_n (pc' := 131) hF d_MD_ask_130 rfl 1 rfl rfl ?_
                obtain ⟨a32, na32, ea32, ka32, h⟩ := fw_ld_some h
                refine fx_getr (pc' := 134) hC hk0 (by decide) rfl iw_MD 20 (by decide) (by decide) rfl na32 ea32 (hw _ wq_3_136) rfl d_MD_ask_131 rfl ?_
                refine fx_iload_n (pc' := 135) hF d_MD_ask_134 rfl 2 rfl rfl ?_
                obtain ⟨q33, h⟩ := fw_gd_some h
                refine fx_iald (pc' := 136) hC ka32 q33 d_MD_ask_135 rfl ?_
                refine fx_iconst (pc' := 137) hF (v := (0 : Int32)) d_MD_ask_136 rfl rfl ?_
                obtain ⟨I34, c35, h⟩ := fw_bv_some h
                refine fx_callVv (pc' := 140) (As := [.int (2 : Int32), .int x1, .int (((I a8 x1.toNatClampNeg) + x4) - ((I a8 x1.toNatClampNeg) + x4) / (I k0 1) * (I k0 1)), .int (I a30 x1.toNatClampNeg), .int (0 : Int32), .int (I a32 x1.toNatClampNeg), .int (0 : Int32)]) (st := []) hC hN hA hk0 (by decide) rfl (ct_MD_send l D aC g n K I k0 (2 : Int32) x1 (((I a8 x1.toNatClampNeg) + x4) - ((I a8 x1.toNatClampNeg) + x4) / (I k0 1) * (I k0 1)) (I a30 x1.toNatClampNeg) (0 : Int32) (I a32 x1.toNatClampNeg) (0 : Int32) I34 hn hk0 c35) (cwV 7 hF.2.2.2.2 (fw_gV wq_3_212 wq_3_214 wsel_MD_send wq_1_8 wq_3_215) rfl rfl rfl ⟨rfl, by decide +kernel, by decide +kernel, by decide +kernel⟩ ⟨Nat.le_of_ble_eq_true rfl, Nat.le_of_ble_eq_true rfl⟩) ⟨Nat.zero_le _, Nat.zero_le _⟩ rfl rfl (Nat.le_of_ble_eq_true rfl) d_MD_ask_137 rfl ?_
                refine fx_goto hF (tgt := 177) d_MD_ask_140 rfl ?_
                refine fx_iinc (pc' := 180) hF (v := x2 + 1) (lv' := [(2, .int (x2 + 1)), (5, .int (((I a8 x1.toNatClampNeg) + x4) - ((I a8 x1.toNatClampNeg) + x4) / (I k0 1) * (I k0 1))), (0, .ref (g k0)), (1, .int x1), (3, .int x3), (4, .int x4)]) d_MD_ask_177 3 rfl rfl (by decide) rfl rfl ?_
                refine fx_iinc (pc' := 183) hF (v := x4 + 1) (lv' := [(4, .int (x4 + 1)), (2, .int (x2 + 1)), (5, .int (((I a8 x1.toNatClampNeg) + x4) - ((I a8 x1.toNatClampNeg) + x4) / (I k0 1) * (I k0 1))), (0, .ref (g k0)), (1, .int x1), (3, .int x3)]) d_MD_ask_180 5 rfl rfl (by decide) rfl rfl ?_
                refine fx_goto hF (tgt := 27) d_MD_ask_183 rfl ?_
                refine fx_lv [3, 4, 1, 5, 0] rfl ?_
                exact ih I34 x1 (x2 + 1) x3 (x4 + 1) h
            · rw [if_pos q16] at h
              refine fx_aload_n (pc' := 89) hF d_MD_ask_88 rfl 1 rfl rfl ?_
              refine fx_iconst (pc' := 90) hF (v := (1 : Int32)) d_MD_ask_89 rfl rfl ?_
              refine fx_iload_n (pc' := 91) hF d_MD_ask_90 rfl 2 rfl rfl ?_
              refine fx_iload (pc' := 93) hF d_MD_ask_91 0 rfl rfl ?_
              refine fx_iconst (pc' := 94) hF (v := (0 : Int32)) d_MD_ask_93 rfl rfl ?_
              refine fx_iconst (pc' := 95) hF (v := (0 : Int32)) d_MD_ask_94 rfl rfl ?_
              refine fx_aload_n (pc' := 96) hF d_MD_ask_95 rfl 1 rfl rfl ?_
              obtain ⟨a36, na36, ea36, ka36, h⟩ := fw_ld_some h
              refine fx_getr (pc' := 99) hC hk0 (by decide) rfl iw_MD 20 (by decide) (by decide) rfl na36 ea36 (hw _ wq_3_136) rfl d_MD_ask_96 rfl ?_
              refine fx_iload_n (pc' := 100) hF d_MD_ask_99 rfl 2 rfl rfl ?_
              obtain ⟨q37, h⟩ := fw_gd_some h
              refine fx_iald (pc' := 101) hC ka36 q37 d_MD_ask_100 rfl ?_
              refine fx_iconst (pc' := 102) hF (v := (0 : Int32)) d_MD_ask_101 rfl rfl ?_
              obtain ⟨I38, c39, h⟩ := fw_bv_some h
              refine fx_callVv (pc' := 105) (As := [.int (1 : Int32), .int x1, .int (((I a8 x1.toNatClampNeg) + x4) - ((I a8 x1.toNatClampNeg) + x4) / (I k0 1) * (I k0 1)), .int (0 : Int32), .int (0 : Int32), .int (I a36 x1.toNatClampNeg), .int (0 : Int32)]) (st := []) hC hN hA hk0 (by decide) rfl (ct_MD_send l D aC g n K I k0 (1 : Int32) x1 (((I a8 x1.toNatClampNeg) + x4) - ((I a8 x1.toNatClampNeg) + x4) / (I k0 1) * (I k0 1)) (0 : Int32) (0 : Int32) (I a36 x1.toNatClampNeg) (0 : Int32) I38 hn hk0 c39) (cwV 7 hF.2.2.2.2 (fw_gV wq_3_212 wq_3_214 wsel_MD_send wq_1_8 wq_3_215) rfl rfl rfl ⟨rfl, by decide +kernel, by decide +kernel, by decide +kernel⟩ ⟨Nat.le_of_ble_eq_true rfl, Nat.le_of_ble_eq_true rfl⟩) ⟨Nat.zero_le _, Nat.zero_le _⟩ rfl rfl (Nat.le_of_ble_eq_true rfl) d_MD_ask_102 rfl ?_
              refine fx_goto hF (tgt := 177) d_MD_ask_105 rfl ?_
              refine fx_iinc (pc' := 180) hF (v := x2 + 1) (lv' := [(2, .int (x2 + 1)), (5, .int (((I a8 x1.toNatClampNeg) + x4) - ((I a8 x1.toNatClampNeg) + x4) / (I k0 1) * (I k0 1))), (0, .ref (g k0)), (1, .int x1), (3, .int x3), (4, .int x4)]) d_MD_ask_177 3 rfl rfl (by decide) rfl rfl ?_
              refine fx_iinc (pc' := 183) hF (v := x4 + 1) (lv' := [(4, .int (x4 + 1)), (2, .int (x2 + 1)), (5, .int (((I a8 x1.toNatClampNeg) + x4) - ((I a8 x1.toNatClampNeg) + x4) / (I k0 1) * (I k0 1))), (0, .ref (g k0)), (1, .int x1), (3, .int x3)]) d_MD_ask_180 5 rfl rfl (by decide) rfl rfl ?_
              refine fx_goto hF (tgt := 27) d_MD_ask_183 rfl ?_
              refine fx_lv [3, 4, 1, 5, 0] rfl ?_
              exact ih I38 x1 (x2 + 1) x3 (x4 + 1) h
        · rw [if_pos q7] at h
          refine fx_iload (pc' := 45) hF d_MD_ask_43 4 rfl rfl ?_
          refine fx_goto hF (tgt := 62) d_MD_ask_45 rfl ?_
          refine fx_istore (pc' := 64) hF (lv' := [(5, .int x4), (0, .ref (g k0)), (1, .int x1), (2, .int x2), (3, .int x3), (4, .int x4)]) d_MD_ask_62 (by decide) rfl rfl ?_
          refine fx_aload_n (pc' := 65) hF d_MD_ask_64 rfl 1 rfl rfl ?_
          obtain ⟨a40, na40, ea40, ka40, h⟩ := fw_ld_some h
          refine fx_getr (pc' := 68) hC hk0 (by decide) rfl iw_MD 24 (by decide) (by decide) rfl na40 ea40 (hw _ wq_3_140) rfl d_MD_ask_65 rfl ?_
          refine fx_iconst (pc' := 69) hF (v := (5 : Int32)) d_MD_ask_68 rfl rfl ?_
          refine fx_iload_n (pc' := 70) hF d_MD_ask_69 rfl 2 rfl rfl ?_
          refine fx_imul (pc' := 71) hF d_MD_ask_70 rfl ?_
          refine fx_iload (pc' := 73) hF d_MD_ask_71 0 rfl rfl ?_
          refine fx_iadd (pc' := 74) hF d_MD_ask_73 rfl ?_
          obtain ⟨q41, h⟩ := fw_gd_some h
          refine fx_zald (pc' := 75) hC ka40 q41 d_MD_ask_74 rfl ?_
          refine fx_if_ne hF (tgt := 180) (pc' := 78) d_MD_ask_75 rfl rfl (fun q42 => ?_) (fun q42 => ?_)
          · rw [if_neg q42] at h
            refine fx_iinc (pc' := 183) hF (v := x4 + 1) (lv' := [(4, .int (x4 + 1)), (5, .int x4), (0, .ref (g k0)), (1, .int x1), (2, .int x2), (3, .int x3)]) d_MD_ask_180 5 rfl rfl (by decide) rfl rfl ?_
            refine fx_goto hF (tgt := 27) d_MD_ask_183 rfl ?_
            refine fx_lv [2, 3, 4, 5, 0] rfl ?_
            exact ih I x1 x2 x3 (x4 + 1) h
          · rw [if_pos q42] at h
            refine fx_aload_n (pc' := 79) hF d_MD_ask_78 rfl 1 rfl rfl ?_
            obtain ⟨a43, na43, ea43, ka43, h⟩ := fw_ld_some h
            refine fx_getr (pc' := 82) hC hk0 (by decide) rfl iw_MD 19 (by decide) (by decide) rfl na43 ea43 (hw _ wq_3_135) rfl d_MD_ask_79 rfl ?_
            refine fx_iload_n (pc' := 83) hF d_MD_ask_82 rfl 2 rfl rfl ?_
            obtain ⟨q44, h⟩ := fw_gd_some h
            refine fx_iald (pc' := 84) hC ka43 q44 d_MD_ask_83 rfl ?_
            refine fx_iconst (pc' := 85) hF (v := (1 : Int32)) d_MD_ask_84 rfl rfl ?_
            refine fx_icmp_ne hF (tgt := 108) (pc' := 88) d_MD_ask_85 rfl rfl (fun q45 => ?_) (fun q45 => ?_)
            · rw [if_neg q45] at h
              refine fx_aload_n (pc' := 109) hF d_MD_ask_108 rfl 1 rfl rfl ?_
              obtain ⟨a46, na46, ea46, ka46, h⟩ := fw_ld_some h
              refine fx_getr (pc' := 112) hC hk0 (by decide) rfl iw_MD 19 (by decide) (by decide) rfl na46 ea46 (hw _ wq_3_135) rfl d_MD_ask_109 rfl ?_
              refine fx_iload_n (pc' := 113) hF d_MD_ask_112 rfl 2 rfl rfl ?_
              obtain ⟨q47, h⟩ := fw_gd_some h
              refine fx_iald (pc' := 114) hC ka46 q47 d_MD_ask_113 rfl ?_
              refine fx_iconst (pc' := 115) hF (v := (2 : Int32)) d_MD_ask_114 rfl rfl ?_
              refine fx_icmp_ne hF (tgt := 143) (pc' := 118) d_MD_ask_115 rfl rfl (fun q48 => ?_) (fun q48 => ?_)
              · rw [if_neg q48] at h
                refine fx_aload_n (pc' := 144) hF d_MD_ask_143 rfl 1 rfl rfl ?_
                refine fx_iconst (pc' := 145) hF (v := (0 : Int32)) d_MD_ask_144 rfl rfl ?_
                refine fx_iload_n (pc' := 146) hF d_MD_ask_145 rfl 2 rfl rfl ?_
                refine fx_iload (pc' := 148) hF d_MD_ask_146 0 rfl rfl ?_
                refine fx_aload_n (pc' := 149) hF d_MD_ask_148 rfl 1 rfl rfl ?_
                obtain ⟨a49, na49, ea49, ka49, h⟩ := fw_ld_some h
                refine fx_getr (pc' := 152) hC hk0 (by decide) rfl iw_MD 21 (by decide) (by decide) rfl na49 ea49 (hw _ wq_3_137) rfl d_MD_ask_149 rfl ?_
                refine fx_iload_n (pc' := 153) hF d_MD_ask_152 rfl 2 rfl rfl ?_
                obtain ⟨q50, h⟩ := fw_gd_some h
                refine fx_iald (pc' := 154) hC ka49 q50 d_MD_ask_153 rfl ?_
                refine fx_aload_n (pc' := 155) hF d_MD_ask_154 rfl 1 rfl rfl ?_
                obtain ⟨a51, na51, ea51, ka51, h⟩ := fw_ld_some h
                refine fx_getr (pc' := 158) hC hk0 (by decide) rfl iw_MD 23 (by decide) (by decide) rfl na51 ea51 (hw _ wq_3_139) rfl d_MD_ask_155 rfl ?_
                refine fx_iload_n (pc' := 159) hF d_MD_ask_158 rfl 2 rfl rfl ?_
                obtain ⟨q52, h⟩ := fw_gd_some h
                refine fx_iald (pc' := 160) hC ka51 q52 d_MD_ask_159 rfl ?_
                refine fx_aload_n (pc' := 161) hF d_MD_ask_160 rfl 1 rfl rfl ?_
                obtain ⟨a53, na53, ea53, ka53, h⟩ := fw_ld_some h
                refine fx_getr (pc' := 164) hC hk0 (by decide) rfl iw_MD 20 (by decide) (by decide) rfl na53 ea53 (hw _ wq_3_136) rfl d_MD_ask_161 rfl ?_
                refine fx_iload_n (pc' := 165) hF d_MD_ask_164 rfl 2 rfl rfl ?_
                obtain ⟨q54, h⟩ := fw_gd_some h
                refine fx_iald (pc' := 166) hC ka53 q54 d_MD_ask_165 rfl ?_
                refine fx_aload_n (pc' := 167) hF d_MD_ask_166 rfl 1 rfl rfl ?_
                obtain ⟨a55, na55, ea55, ka55, h⟩ := fw_ld_some h
                refine fx_getr (pc' := 170) hC hk0 (by decide) rfl iw_MD 21 (by decide) (by decide) rfl na55 ea55 (hw _ wq_3_137) rfl d_MD_ask_167 rfl ?_
                refine fx_iload_n (pc' := 171) hF d_MD_ask_170 rfl 2 rfl rfl ?_
                obtain ⟨q56, h⟩ := fw_gd_some h
                refine fx_iald (pc' := 172) hC ka55 q56 d_MD_ask_171 rfl ?_
                refine fx_iconst (pc' := 173) hF (v := (1 : Int32)) d_MD_ask_172 rfl rfl ?_
                refine fx_isub (pc' := 174) hF d_MD_ask_173 rfl ?_
                obtain ⟨I57, c58, h⟩ := fw_bv_some h
                refine fx_callVv (pc' := 177) (As := [.int (0 : Int32), .int x1, .int x4, .int (I a49 x1.toNatClampNeg), .int (I a51 x1.toNatClampNeg), .int (I a53 x1.toNatClampNeg), .int ((I a55 x1.toNatClampNeg) - (1 : Int32))]) (st := []) hC hN hA hk0 (by decide) rfl (ct_MD_send l D aC g n K I k0 (0 : Int32) x1 x4 (I a49 x1.toNatClampNeg) (I a51 x1.toNatClampNeg) (I a53 x1.toNatClampNeg) ((I a55 x1.toNatClampNeg) - (1 : Int32)) I57 hn hk0 c58) (cwV 7 hF.2.2.2.2 (fw_gV wq_3_212 wq_3_214 wsel_MD_send wq_1_8 wq_3_215) rfl rfl rfl ⟨rfl, by decide +kernel, by decide +kernel, by decide +kernel⟩ ⟨Nat.le_of_ble_eq_true rfl, Nat.le_of_ble_eq_true rfl⟩) ⟨Nat.zero_le _, Nat.zero_le _⟩ rfl rfl (Nat.le_of_ble_eq_true rfl) d_MD_ask_174 rfl ?_
                refine fx_iinc (pc' := 180) hF (v := x2 + 1) (lv' := [(2, .int (x2 + 1)), (5, .int x4), (0, .ref (g k0)), (1, .int x1), (3, .int x3), (4, .int x4)]) d_MD_ask_177 3 rfl rfl (by decide) rfl rfl ?_
                refine fx_iinc (pc' := 183) hF (v := x4 + 1) (lv' := [(4, .int (x4 + 1)), (2, .int (x2 + 1)), (5, .int x4), (0, .ref (g k0)), (1, .int x1), (3, .int x3)]) d_MD_ask_180 5 rfl rfl (by decide) rfl rfl ?_
                refine fx_goto hF (tgt := 27) d_MD_ask_183 rfl ?_
                refine fx_lv [3, 4, 1, 5, 0] rfl ?_
                exact ih I57 x1 (x2 + 1) x3 (x4 + 1) h
              · rw [if_pos q48] at h
                refine fx_aload_n (pc' := 119) hF d_MD_ask_118 rfl 1 rfl rfl ?_
                refine fx_iconst (pc' := 120) hF (v := (2 : Int32)) d_MD_ask_119 rfl rfl ?_
                refine fx_iload_n (pc' := 121) hF d_MD_ask_120 rfl 2 rfl rfl ?_
                refine fx_iload (pc' := 123) hF d_MD_ask_121 0 rfl rfl ?_
                refine fx_aload_n (pc' := 124) hF d_MD_ask_123 rfl 1 rfl rfl ?_
                obtain ⟨a59, na59, ea59, ka59, h⟩ := fw_ld_some h
                refine fx_getr (pc' := 127) hC hk0 (by decide) rfl iw_MD 21 (by decide) (by decide) rfl na59 ea59 (hw _ wq_3_137) rfl d_MD_ask_124 rfl ?_
                refine fx_iload_n (pc' := 128) hF d_MD_ask_127 rfl 2 rfl rfl ?_
                obtain ⟨q60, h⟩ := fw_gd_some h
                refine fx_iald (pc' := 129) hC ka59 q60 d_MD_ask_128 rfl ?_
                refine fx_iconst (pc' := 130) hF (v := (0 : Int32)) d_MD_ask_129 rfl rfl ?_
                refine fx_aload_n (pc' := 131) hF d_MD_ask_130 rfl 1 rfl rfl ?_
                obtain ⟨a61, na61, ea61, ka61, h⟩ := fw_ld_some h
                refine fx_getr (pc' := 134) hC hk0 (by decide) rfl iw_MD 20 (by decide) (by decide) rfl na61 ea61 (hw _ wq_3_136) rfl d_MD_ask_131 rfl ?_
                refine fx_iload_n (pc' := 135) hF d_MD_ask_134 rfl 2 rfl rfl ?_
                obtain ⟨q62, h⟩ := fw_gd_some h
                refine fx_iald (pc' := 136) hC ka61 q62 d_MD_ask_135 rfl ?_
                refine fx_iconst (pc' := 137) hF (v := (0 : Int32)) d_MD_ask_136 rfl rfl ?_
                obtain ⟨I63, c64, h⟩ := fw_bv_some h
                refine fx_callVv (pc' := 140) (As := [.int (2 : Int32), .int x1, .int x4, .int (I a59 x1.toNatClampNeg), .int (0 : Int32), .int (I a61 x1.toNatClampNeg), .int (0 : Int32)]) (st := []) hC hN hA hk0 (by decide) rfl (ct_MD_send l D aC g n K I k0 (2 : Int32) x1 x4 (I a59 x1.toNatClampNeg) (0 : Int32) (I a61 x1.toNatClampNeg) (0 : Int32) I63 hn hk0 c64) (cwV 7 hF.2.2.2.2 (fw_gV wq_3_212 wq_3_214 wsel_MD_send wq_1_8 wq_3_215) rfl rfl rfl ⟨rfl, by decide +kernel, by decide +kernel, by decide +kernel⟩ ⟨Nat.le_of_ble_eq_true rfl, Nat.le_of_ble_eq_true rfl⟩) ⟨Nat.zero_le _, Nat.zero_le _⟩ rfl rfl (Nat.le_of_ble_eq_true rfl) d_MD_ask_137 rfl ?_
                refine fx_goto hF (tgt := 177) d_MD_ask_140 rfl ?_
                refine fx_iinc (pc' := 180) hF (v := x2 + 1) (lv' := [(2, .int (x2 + 1)), (5, .int x4), (0, .ref (g k0)), (1, .int x1), (3, .int x3), (4, .int x4)]) d_MD_ask_177 3 rfl rfl (by decide) rfl rfl ?_
                refine fx_iinc (pc' := 183) hF (v := x4 + 1) (lv' := [(4, .int (x4 + 1)), (2, .int (x2 + 1)), (5, .int x4), (0, .ref (g k0)), (1, .int x1), (3, .int x3)]) d_MD_ask_180 5 rfl rfl (by decide) rfl rfl ?_
                refine fx_goto hF (tgt := 27) d_MD_ask_183 rfl ?_
                refine fx_lv [3, 4, 1, 5, 0] rfl ?_
                exact ih I63 x1 (x2 + 1) x3 (x4 + 1) h
            · rw [if_pos q45] at h
              refine fx_aload_n (pc' := 89) hF d_MD_ask_88 rfl 1 rfl rfl ?_
              refine fx_iconst (pc' := 90) hF (v := (1 : Int32)) d_MD_ask_89 rfl rfl ?_
              refine fx_iload_n (pc' := 91) hF d_MD_ask_90 rfl 2 rfl rfl ?_
              refine fx_iload (pc' := 93) hF d_MD_ask_91 0 rfl rfl ?_
              refine fx_iconst (pc' := 94) hF (v := (0 : Int32)) d_MD_ask_93 rfl rfl ?_
              refine fx_iconst (pc' := 95) hF (v := (0 : Int32)) d_MD_ask_94 rfl rfl ?_
              refine fx_aload_n (pc' := 96) hF d_MD_ask_95 rfl 1 rfl rfl ?_
              obtain ⟨a65, na65, ea65, ka65, h⟩ := fw_ld_some h
              refine fx_getr (pc' := 99) hC hk0 (by decide) rfl iw_MD 20 (by decide) (by decide) rfl na65 ea65 (hw _ wq_3_136) rfl d_MD_ask_96 rfl ?_
              refine fx_iload_n (pc' := 100) hF d_MD_ask_99 rfl 2 rfl rfl ?_
              obtain ⟨q66, h⟩ := fw_gd_some h
              refine fx_iald (pc' := 101) hC ka65 q66 d_MD_ask_100 rfl ?_
              refine fx_iconst (pc' := 102) hF (v := (0 : Int32)) d_MD_ask_101 rfl rfl ?_
              obtain ⟨I67, c68, h⟩ := fw_bv_some h
              refine fx_callVv (pc' := 105) (As := [.int (1 : Int32), .int x1, .int x4, .int (0 : Int32), .int (0 : Int32), .int (I a65 x1.toNatClampNeg), .int (0 : Int32)]) (st := []) hC hN hA hk0 (by decide) rfl (ct_MD_send l D aC g n K I k0 (1 : Int32) x1 x4 (0 : Int32) (0 : Int32) (I a65 x1.toNatClampNeg) (0 : Int32) I67 hn hk0 c68) (cwV 7 hF.2.2.2.2 (fw_gV wq_3_212 wq_3_214 wsel_MD_send wq_1_8 wq_3_215) rfl rfl rfl ⟨rfl, by decide +kernel, by decide +kernel, by decide +kernel⟩ ⟨Nat.le_of_ble_eq_true rfl, Nat.le_of_ble_eq_true rfl⟩) ⟨Nat.zero_le _, Nat.zero_le _⟩ rfl rfl (Nat.le_of_ble_eq_true rfl) d_MD_ask_102 rfl ?_
              refine fx_goto hF (tgt := 177) d_MD_ask_105 rfl ?_
              refine fx_iinc (pc' := 180) hF (v := x2 + 1) (lv' := [(2, .int (x2 + 1)), (5, .int x4), (0, .ref (g k0)), (1, .int x1), (3, .int x3), (4, .int x4)]) d_MD_ask_177 3 rfl rfl (by decide) rfl rfl ?_
              refine fx_iinc (pc' := 183) hF (v := x4 + 1) (lv' := [(4, .int (x4 + 1)), (2, .int (x2 + 1)), (5, .int x4), (0, .ref (g k0)), (1, .int x1), (3, .int x3)]) d_MD_ask_180 5 rfl rfl (by decide) rfl rfl ?_
              refine fx_goto hF (tgt := 27) d_MD_ask_183 rfl ?_
              refine fx_lv [3, 4, 1, 5, 0] rfl ?_
              exact ih I67 x1 (x2 + 1) x3 (x4 + 1) h
  have B23 : ∀ (I : Nat → Nat → Int32) (x1 : Int32) (x2 : Int32) (s0 : Int32), fn_MD_ask_23 K I k0 x1 x2 s0 = some Rr → fw_G p l e r_MD_ask s m args below meth c 0 0 Q 6 D aC A g n K I 23 [(0, .ref (g k0)), (1, .int x1), (2, .int x2)] [.int s0] := by
    intro I x1 x2 s0 h
    unfold fn_MD_ask_23 at h
    refine fx_istore_n (pc' := 24) hF (lv' := [(3, .int s0), (0, .ref (g k0)), (1, .int x1), (2, .int x2)]) d_MD_ask_23 rfl (by decide) rfl rfl ?_
    refine fx_iconst (pc' := 25) hF (v := (0 : Int32)) d_MD_ask_24 rfl rfl ?_
    refine fx_istore (pc' := 27) hF (lv' := [(4, .int (0 : Int32)), (3, .int s0), (0, .ref (g k0)), (1, .int x1), (2, .int x2)]) d_MD_ask_25 (by decide) rfl rfl ?_
    refine fx_lv [2, 3, 4, 1, 0] rfl ?_
    exact B27 200 I x1 x2 s0 (0 : Int32) h
  change fw_G p l e r_MD_ask s m args below meth c 0 0 Q 6 D aC A g n K I 0 [(0, .ref (g k0)), (1, .int x1)] []
  refine fx_iconst (pc' := 1) hF (v := (0 : Int32)) d_MD_ask_0 rfl rfl ?_
  refine fx_istore_n (pc' := 2) hF (lv' := [(2, .int (0 : Int32)), (0, .ref (g k0)), (1, .int x1)]) d_MD_ask_1 rfl (by decide) rfl rfl ?_
  refine fx_aload_n (pc' := 3) hF d_MD_ask_2 rfl 1 rfl rfl ?_
  obtain ⟨a1, na1, ea1, ka1, h⟩ := fw_ld_some h
  refine fx_getr (pc' := 6) hC hk0 (by decide) rfl iw_MD 19 (by decide) (by decide) rfl na1 ea1 (hw _ wq_3_135) rfl d_MD_ask_3 rfl ?_
  refine fx_iload_n (pc' := 7) hF d_MD_ask_6 rfl 2 rfl rfl ?_
  obtain ⟨q2, h⟩ := fw_gd_some h
  refine fx_iald (pc' := 8) hC ka1 q2 d_MD_ask_7 rfl ?_
  refine fx_iconst (pc' := 9) hF (v := (1 : Int32)) d_MD_ask_8 rfl rfl ?_
  refine fx_icmp_ne hF (tgt := 19) (pc' := 12) d_MD_ask_9 rfl rfl (fun q3 => ?_) (fun q3 => ?_)
  · rw [if_neg q3] at h
    refine fx_aload_n (pc' := 20) hF d_MD_ask_19 rfl 1 rfl rfl ?_
    refine fx_geti (pc' := 23) hC hk0 (by decide) rfl iw_MD 2 (by decide) (by decide) rfl (hw _ wq_3_118) rfl d_MD_ask_20 rfl ?_
    refine fx_lv [1, 2, 0] rfl ?_
    exact B23 I x1 (0 : Int32) (I k0 2) h
  · rw [if_pos q3] at h
    refine fx_aload_n (pc' := 13) hF d_MD_ask_12 rfl 1 rfl rfl ?_
    refine fx_geti (pc' := 16) hC hk0 (by decide) rfl iw_MD 1 (by decide) (by decide) rfl (hw _ wq_3_117) rfl d_MD_ask_13 rfl ?_
    refine fx_goto hF (tgt := 23) d_MD_ask_16 rfl ?_
    refine fx_lv [1, 2, 0] rfl ?_
    exact B23 I x1 (0 : Int32) (I k0 1) h
set_option maxHeartbeats 4000000 in
set_option maxRecDepth 100000 in
theorem ct_MD_finish (l : Launch) (D : va_G) (aC : Nat → ClassId) (g : Nat → Nat) (n : Nat) (K : Nat → Nat × Nat) (I : Nat → Nat → Int32) (k0 : Nat) (x1 : Int32) (x2 : Int32) (Rr : Nat → Nat → Int32) (hn : ∀ k, (K k).1 < 99 → k < n) (hk0 : (K k0).1 = 6) (h : fn_MD_finish K I k0 x1 x2 = some Rr) : fw_Mv l y_MD_finish w_MD_finish r_MD_finish D aC g n K I [.ref (g k0), .int x1, .int x2] Rr := by
  refine fw_ofGv (cc := b_MD_finish) (maxL := 3) (ws' := fw_ws) (by decide +kernel) hn (Nat.le_of_ble_eq_true rfl) rfl ?_
  intro p e s m args below meth c A Q hC hN hA he
  have hF := hC.1
  have hw : ∀ w ∈ fw_ws, w.before args s = true := fun w hw => hF.2.2.2.2 w (List.mem_cons_of_mem _ hw)
  unfold fn_MD_finish at h
  have B41 : ∀ (I : Nat → Nat → Int32) (x1 : Int32), fn_MD_finish_41 K I k0 x1 = some Rr → fw_G p l e r_MD_finish s m args below meth c 0 0 Q 3 D aC A g n K I 41 [(0, .ref (g k0)), (1, .int x1)] [] := by
    intro I x1 h
    unfold fn_MD_finish_41 at h
    refine fx_aload_n (pc' := 42) hF d_MD_finish_41 rfl 0 rfl rfl ?_
    obtain ⟨a2, na2, ea2, ka2, h⟩ := fw_ld_some h
    refine fx_getr (pc' := 45) hC hk0 (by decide) rfl iw_MD 19 (by decide) (by decide) rfl na2 ea2 (hw _ wq_3_135) rfl d_MD_finish_42 rfl ?_
    refine fx_iload_n (pc' := 46) hF d_MD_finish_45 rfl 1 rfl rfl ?_
    refine fx_aload_n (pc' := 47) hF d_MD_finish_46 rfl 0 rfl rfl ?_
    refine fx_geti (pc' := 50) hC hk0 (by decide) rfl iw_MD 9 (by decide) (by decide) rfl (hw _ wq_3_125) rfl d_MD_finish_47 rfl ?_
    refine fx_iconst (pc' := 51) hF (v := (2 : Int32)) d_MD_finish_50 rfl rfl ?_
    refine fx_icmp_ne hF (tgt := 58) (pc' := 54) d_MD_finish_51 rfl rfl (fun q3 => ?_) (fun q3 => ?_)
    · rw [if_neg q3] at h
      refine fx_iconst (pc' := 59) hF (v := (0 : Int32)) d_MD_finish_58 rfl rfl ?_
      obtain ⟨q4, h⟩ := fw_gd_some h
      obtain ⟨I5, eI5, h⟩ := fw_let_some h
      refine fx_iast (pc' := 60) hC ka2 q4 eI5 d_MD_finish_59 rfl ?_
      exact he I5 _ _ d_MD_finish_60 h
    · rw [if_pos q3] at h
      refine fx_iconst (pc' := 55) hF (v := (4 : Int32)) d_MD_finish_54 rfl rfl ?_
      refine fx_goto hF (tgt := 59) d_MD_finish_55 rfl ?_
      obtain ⟨q6, h⟩ := fw_gd_some h
      obtain ⟨I7, eI7, h⟩ := fw_let_some h
      refine fx_iast (pc' := 60) hC ka2 q6 eI7 d_MD_finish_59 rfl ?_
      exact he I7 _ _ d_MD_finish_60 h
  change fw_G p l e r_MD_finish s m args below meth c 0 0 Q 3 D aC A g n K I 0 [(0, .ref (g k0)), (1, .int x1), (2, .int x2)] []
  refine fx_aload_n (pc' := 1) hF d_MD_finish_0 rfl 0 rfl rfl ?_
  refine fx_geti (pc' := 4) hC hk0 (by decide) rfl iw_MD 9 (by decide) (by decide) rfl (hw _ wq_3_125) rfl d_MD_finish_1 rfl ?_
  refine fx_iconst (pc' := 5) hF (v := (1 : Int32)) d_MD_finish_4 rfl rfl ?_
  refine fx_icmp_ne hF (tgt := 41) (pc' := 8) d_MD_finish_5 rfl rfl (fun q1 => ?_) (fun q1 => ?_)
  · rw [if_neg q1] at h
    refine fx_lv [0, 1] rfl ?_
    exact B41 I x1 h
  · rw [if_pos q1] at h
    refine fx_aload_n (pc' := 9) hF d_MD_finish_8 rfl 0 rfl rfl ?_
    refine fx_geti (pc' := 12) hC hk0 (by decide) rfl iw_MD 10 (by decide) (by decide) rfl (hw _ wq_3_126) rfl d_MD_finish_9 rfl ?_
    refine fx_aload_n (pc' := 13) hF d_MD_finish_12 rfl 0 rfl rfl ?_
    obtain ⟨a8, na8, ea8, ka8, h⟩ := fw_ld_some h
    refine fx_getr (pc' := 16) hC hk0 (by decide) rfl iw_MD 20 (by decide) (by decide) rfl na8 ea8 (hw _ wq_3_136) rfl d_MD_finish_13 rfl ?_
    refine fx_iload_n (pc' := 17) hF d_MD_finish_16 rfl 1 rfl rfl ?_
    obtain ⟨q9, h⟩ := fw_gd_some h
    refine fx_iald (pc' := 18) hC ka8 q9 d_MD_finish_17 rfl ?_
    refine fx_icmp_ne hF (tgt := 41) (pc' := 21) d_MD_finish_18 rfl rfl (fun q10 => ?_) (fun q10 => ?_)
    · rw [if_neg q10] at h
      refine fx_lv [0, 1] rfl ?_
      exact B41 I x1 h
    · rw [if_pos q10] at h
      refine fx_aload_n (pc' := 22) hF d_MD_finish_21 rfl 0 rfl rfl ?_
      refine fx_iconst (pc' := 23) hF (v := (2 : Int32)) d_MD_finish_22 rfl rfl ?_
      obtain ⟨I11, eI11, h⟩ := fw_let_some h
      refine fx_puti (pc' := 26) hC hk0 (by decide) rfl iw_MD 9 (by decide) (by decide) rfl ty_MD tyok_MD nn_MD rfl eI11 (tyok_MD 9 (by decide)) rfl rfl (hw _ wq_3_125) rfl d_MD_finish_23 rfl ?_
      refine fx_aload_n (pc' := 27) hF d_MD_finish_26 rfl 0 rfl rfl ?_
      refine fx_iload_n (pc' := 28) hF d_MD_finish_27 rfl 2 rfl rfl ?_
      obtain ⟨I12, eI12, h⟩ := fw_let_some h
      refine fx_puti (pc' := 31) hC hk0 (by decide) rfl iw_MD 11 (by decide) (by decide) rfl ty_MD tyok_MD nn_MD rfl eI12 (tyok_MD 11 (by decide)) rfl rfl (hw _ wq_3_127) rfl d_MD_finish_28 rfl ?_
      refine fx_aload_n (pc' := 32) hF d_MD_finish_31 rfl 0 rfl rfl ?_
      refine fx_dup (pc' := 33) hF d_MD_finish_32 rfl rfl ?_
      refine fx_geti (pc' := 36) hC hk0 (by decide) rfl iw_MD 10 (by decide) (by decide) rfl (hw _ wq_3_126) rfl d_MD_finish_33 rfl ?_
      refine fx_iconst (pc' := 37) hF (v := (1 : Int32)) d_MD_finish_36 rfl rfl ?_
      refine fx_iadd (pc' := 38) hF d_MD_finish_37 rfl ?_
      obtain ⟨I13, eI13, h⟩ := fw_let_some h
      refine fx_puti (pc' := 41) hC hk0 (by decide) rfl iw_MD 10 (by decide) (by decide) rfl ty_MD tyok_MD nn_MD rfl eI13 (tyok_MD 10 (by decide)) rfl rfl (hw _ wq_3_126) rfl d_MD_finish_38 rfl ?_
      refine fx_lv [0, 1] rfl ?_
      exact B41 I13 x1 h
set_option maxHeartbeats 4000000 in
set_option maxRecDepth 100000 in
theorem ct_MD_readOn (l : Launch) (D : va_G) (aC : Nat → ClassId) (g : Nat → Nat) (n : Nat) (K : Nat → Nat × Nat) (I : Nat → Nat → Int32) (k0 : Nat) (x1 : Int32) (x2 : Int32) (Rr : Nat → Nat → Int32) (hn : ∀ k, (K k).1 < 99 → k < n) (hk0 : (K k0).1 = 6) (h : fn_MD_readOn K I k0 x1 x2 = some Rr) : fw_Mv l y_MD_readOn w_MD_readOn r_MD_readOn D aC g n K I [.ref (g k0), .int x1, .int x2] Rr := by
  refine fw_ofGv (cc := b_MD_readOn) (maxL := 4) (ws' := fw_ws) (by decide +kernel) hn (Nat.le_of_ble_eq_true rfl) rfl ?_
  intro p e s m args below meth c A Q hC hN hA he
  have hF := hC.1
  have hw : ∀ w ∈ fw_ws, w.before args s = true := fun w hw => hF.2.2.2.2 w (List.mem_cons_of_mem _ hw)
  unfold fn_MD_readOn at h
  change fw_G p l e r_MD_readOn s m args below meth c 0 0 Q 4 D aC A g n K I 0 [(0, .ref (g k0)), (1, .int x1), (2, .int x2)] []
  refine fx_iload_n (pc' := 1) hF d_MD_readOn_0 rfl 2 rfl rfl ?_
  refine fx_bipush (pc' := 3) hF (v := (20 : Int32)) d_MD_readOn_1 rfl rfl ?_
  refine fx_icmp_ne hF (tgt := 15) (pc' := 6) d_MD_readOn_3 rfl rfl (fun q1 => ?_) (fun q1 => ?_)
  · rw [if_neg q1] at h
    refine fx_aload_n (pc' := 16) hF d_MD_readOn_15 rfl 0 rfl rfl ?_
    obtain ⟨a2, na2, ea2, ka2, h⟩ := fw_ld_some h
    refine fx_getr (pc' := 19) hC hk0 (by decide) rfl iw_MD 21 (by decide) (by decide) rfl na2 ea2 (hw _ wq_3_137) rfl d_MD_readOn_16 rfl ?_
    refine fx_iload_n (pc' := 20) hF d_MD_readOn_19 rfl 1 rfl rfl ?_
    refine fx_iload_n (pc' := 21) hF d_MD_readOn_20 rfl 2 rfl rfl ?_
    obtain ⟨q3, h⟩ := fw_gd_some h
    obtain ⟨I4, eI4, h⟩ := fw_let_some h
    refine fx_iast (pc' := 22) hC ka2 q3 eI4 d_MD_readOn_21 rfl ?_
    refine fx_aload_n (pc' := 23) hF d_MD_readOn_22 rfl 0 rfl rfl ?_
    refine fx_iload_n (pc' := 24) hF d_MD_readOn_23 rfl 1 rfl rfl ?_
    obtain ⟨I5, c6, h⟩ := fw_bv_some h
    refine fx_callVv (pc' := 27) (As := [.int x1]) (st := []) hC hN hA hk0 (by decide) rfl (ct_MD_forget l D aC g n K I4 k0 x1 I5 hn hk0 c6) (cwV 1 hF.2.2.2.2 (fw_gV wq_4_4 wq_4_6 wsel_MD_forget wq_1_8 wq_4_7) rfl rfl rfl ⟨rfl, by decide +kernel, by decide +kernel, by decide +kernel⟩ ⟨Nat.le_of_ble_eq_true rfl, Nat.le_of_ble_eq_true rfl⟩) ⟨Nat.zero_le _, Nat.zero_le _⟩ rfl rfl (Nat.le_of_ble_eq_true rfl) d_MD_readOn_24 rfl ?_
    refine fx_aload_n (pc' := 28) hF d_MD_readOn_27 rfl 0 rfl rfl ?_
    obtain ⟨a7, na7, ea7, ka7, h⟩ := fw_ld_some h
    refine fx_getr (pc' := 31) hC hk0 (by decide) rfl iw_MD 19 (by decide) (by decide) rfl na7 ea7 (hw _ wq_3_135) rfl d_MD_readOn_28 rfl ?_
    refine fx_iload_n (pc' := 32) hF d_MD_readOn_31 rfl 1 rfl rfl ?_
    refine fx_iconst (pc' := 33) hF (v := (2 : Int32)) d_MD_readOn_32 rfl rfl ?_
    obtain ⟨q8, h⟩ := fw_gd_some h
    obtain ⟨I9, eI9, h⟩ := fw_let_some h
    refine fx_iast (pc' := 34) hC ka7 q8 eI9 d_MD_readOn_33 rfl ?_
    refine fx_aload_n (pc' := 35) hF d_MD_readOn_34 rfl 0 rfl rfl ?_
    refine fx_iload_n (pc' := 36) hF d_MD_readOn_35 rfl 1 rfl rfl ?_
    obtain ⟨r12, I10, c11, h⟩ := fw_bd_some h
    refine fx_callVi (pc' := 39) (As := [.int x1]) (st := []) hC hN hA hk0 (by decide) rfl (ct_MD_ask l D aC g n K I9 k0 x1 (r12, I10) hn hk0 c11) (cwV 1 hF.2.2.2.2 (fw_gV wq_4_8 wq_4_10 wsel_MD_ask wq_1_8 wq_4_11) rfl rfl rfl ⟨rfl, by decide +kernel, by decide +kernel, by decide +kernel⟩ ⟨Nat.le_of_ble_eq_true rfl, Nat.le_of_ble_eq_true rfl⟩) ⟨Nat.zero_le _, Nat.zero_le _⟩ rfl rfl (Nat.le_of_ble_eq_true rfl) d_MD_readOn_36 rfl ?_
    refine fx_istore_n (pc' := 40) hF (lv' := [(3, .int r12), (0, .ref (g k0)), (1, .int x1), (2, .int x2)]) d_MD_readOn_39 rfl (by decide) rfl rfl ?_
    exact he I10 _ _ d_MD_readOn_40 h
  · rw [if_pos q1] at h
    refine fx_aload_n (pc' := 7) hF d_MD_readOn_6 rfl 0 rfl rfl ?_
    refine fx_iload_n (pc' := 8) hF d_MD_readOn_7 rfl 1 rfl rfl ?_
    refine fx_iload_n (pc' := 9) hF d_MD_readOn_8 rfl 2 rfl rfl ?_
    refine fx_iconst (pc' := 10) hF (v := (1 : Int32)) d_MD_readOn_9 rfl rfl ?_
    refine fx_isub (pc' := 11) hF d_MD_readOn_10 rfl ?_
    obtain ⟨I13, c14, h⟩ := fw_bv_some h
    refine fx_callVv (pc' := 14) (As := [.int x1, .int (x2 - (1 : Int32))]) (st := []) hC hN hA hk0 (by decide) rfl (ct_MD_finish l D aC g n K I k0 x1 (x2 - (1 : Int32)) I13 hn hk0 c14) (cwV 2 hF.2.2.2.2 (fw_gV wq_4_0 wq_4_2 wsel_MD_finish wq_1_8 wq_4_3) rfl rfl rfl ⟨rfl, by decide +kernel, by decide +kernel, by decide +kernel⟩ ⟨Nat.le_of_ble_eq_true rfl, Nat.le_of_ble_eq_true rfl⟩) ⟨Nat.zero_le _, Nat.zero_le _⟩ rfl rfl (Nat.le_of_ble_eq_true rfl) d_MD_readOn_11 rfl ?_
    exact he I13 _ _ d_MD_readOn_14 h
set_option maxHeartbeats 4000000 in
set_option maxRecDepth 100000 in
theorem ct_MD_covers (l : Launch) (D : va_G) (aC : Nat → ClassId) (g : Nat → Nat) (n : Nat) (K : Nat → Nat × Nat) (I : Nat → Nat → Int32) (k0 : Nat) (x1 : Int32) (Rr : Int32 × (Nat → Nat → Int32)) (hn : ∀ k, (K k).1 < 99 → k < n) (hk0 : (K k0).1 = 6) (h : fn_MD_covers K I k0 x1 = some Rr) : fw_Mi l y_MD_covers w_MD_covers r_MD_covers D aC g n K I [.ref (g k0), .int x1] Rr := by
  refine fw_ofGi (cc := b_MD_covers) (maxL := 6) (ws' := fw_ws) (by decide +kernel) hn (Nat.le_of_ble_eq_true rfl) rfl ?_
  intro p e s m args below meth c A Q hC hN hA he
  have hF := hC.1
  have hw : ∀ w ∈ fw_ws, w.before args s = true := fun w hw => hF.2.2.2.2 w (List.mem_cons_of_mem _ hw)
  unfold fn_MD_covers at h
  have B18 : ∀ (kt : (Nat → Nat → Int32) → Nat → Int32 → Int32 → Int32 → Option (Int32 × (Nat → Nat → Int32))) (hkt : ∀ (I : Nat → Nat → Int32) (x1 : Int32) (x2 : Int32) (x3 : Int32), kt I k0 x1 x2 x3 = some Rr → fw_G p l e r_MD_covers s m args below meth c 0 0 Q 6 D aC A g n K I 4 [(0, .ref (g k0)), (1, .int x1), (2, .int x2), (3, .int x3)] []) (f : Nat) (I : Nat → Nat → Int32) (x1 : Int32) (x2 : Int32) (x3 : Int32) (x4 : Int32) (x5 : Int32), fn_MD_covers_18 K kt f I k0 x1 x2 x3 x4 x5 = some Rr → fw_G p l e r_MD_covers s m args below meth c 0 0 Q 6 D aC A g n K I 18 [(0, .ref (g k0)), (1, .int x1), (2, .int x2), (3, .int x3), (4, .int x4), (5, .int x5)] [] := by
    intro kt hkt f
    induction f with
    | zero =>
      intro I x1 x2 x3 x4 x5 h
      rw [fn_MD_covers_18] at h
      cases h
    | succ f ih =>
      intro I x1 x2 x3 x4 x5 h
      rw [fn_MD_covers_18] at h
      refine fx_iload (pc' := 20) hF d_MD_covers_18 5 rfl rfl ?_
      refine fx_aload_n (pc' := 21) hF d_MD_covers_20 rfl 0 rfl rfl ?_
      refine fx_geti (pc' := 24) hC hk0 (by decide) rfl iw_MD 2 (by decide) (by decide) rfl (hw _ wq_3_118) rfl d_MD_covers_21 rfl ?_
      refine fx_icmp_ge hF (tgt := 64) (pc' := 27) d_MD_covers_24 rfl rfl (fun q3 => ?_) (fun q3 => ?_)
      · rw [if_pos q3] at h
        refine fx_iload_n (pc' := 65) hF d_MD_covers_64 rfl 2 rfl rfl ?_
        refine fx_if_eq hF (tgt := 81) (pc' := 68) d_MD_covers_65 rfl rfl (fun q4 => ?_) (fun q4 => ?_)
        · rw [if_pos q4] at h
          refine fx_iconst (pc' := 82) hF (v := (0 : Int32)) d_MD_covers_81 rfl rfl ?_
          refine fx_istore_n (pc' := 83) hF (lv' := [(2, .int (0 : Int32)), (0, .ref (g k0)), (1, .int x1), (3, .int x3), (4, .int x4), (5, .int x5)]) d_MD_covers_82 rfl (by decide) rfl rfl ?_
          refine fx_iinc (pc' := 86) hF (v := x3 + 1) (lv' := [(3, .int (x3 + 1)), (2, .int (0 : Int32)), (0, .ref (g k0)), (1, .int x1), (4, .int x4), (5, .int x5)]) d_MD_covers_83 3 rfl rfl (by decide) rfl rfl ?_
          refine fx_goto hF (tgt := 4) d_MD_covers_86 rfl ?_
          refine fx_lv [2, 3, 1, 0] rfl ?_
          exact hkt I x1 (0 : Int32) (x3 + 1) h
        · rw [if_neg q4] at h
          refine fx_iload (pc' := 70) hF d_MD_covers_68 4 rfl rfl ?_
          refine fx_aload_n (pc' := 71) hF d_MD_covers_70 rfl 0 rfl rfl ?_
          refine fx_geti (pc' := 74) hC hk0 (by decide) rfl iw_MD 3 (by decide) (by decide) rfl (hw _ wq_3_119) rfl d_MD_covers_71 rfl ?_
          refine fx_icmp_ge hF (tgt := 81) (pc' := 77) d_MD_covers_74 rfl rfl (fun q5 => ?_) (fun q5 => ?_)
          · rw [if_pos q5] at h
            refine fx_iconst (pc' := 82) hF (v := (0 : Int32)) d_MD_covers_81 rfl rfl ?_
            refine fx_istore_n (pc' := 83) hF (lv' := [(2, .int (0 : Int32)), (0, .ref (g k0)), (1, .int x1), (3, .int x3), (4, .int x4), (5, .int x5)]) d_MD_covers_82 rfl (by decide) rfl rfl ?_
            refine fx_iinc (pc' := 86) hF (v := x3 + 1) (lv' := [(3, .int (x3 + 1)), (2, .int (0 : Int32)), (0, .ref (g k0)), (1, .int x1), (4, .int x4), (5, .int x5)]) d_MD_covers_83 3 rfl rfl (by decide) rfl rfl ?_
            refine fx_goto hF (tgt := 4) d_MD_covers_86 rfl ?_
            refine fx_lv [2, 3, 1, 0] rfl ?_
            exact hkt I x1 (0 : Int32) (x3 + 1) h
          · rw [if_neg q5] at h
            refine fx_iconst (pc' := 78) hF (v := (1 : Int32)) d_MD_covers_77 rfl rfl ?_
            refine fx_goto hF (tgt := 82) d_MD_covers_78 rfl ?_
            refine fx_istore_n (pc' := 83) hF (lv' := [(2, .int (1 : Int32)), (0, .ref (g k0)), (1, .int x1), (3, .int x3), (4, .int x4), (5, .int x5)]) d_MD_covers_82 rfl (by decide) rfl rfl ?_
            refine fx_iinc (pc' := 86) hF (v := x3 + 1) (lv' := [(3, .int (x3 + 1)), (2, .int (1 : Int32)), (0, .ref (g k0)), (1, .int x1), (4, .int x4), (5, .int x5)]) d_MD_covers_83 3 rfl rfl (by decide) rfl rfl ?_
            refine fx_goto hF (tgt := 4) d_MD_covers_86 rfl ?_
            refine fx_lv [2, 3, 1, 0] rfl ?_
            exact hkt I x1 (1 : Int32) (x3 + 1) h
      · rw [if_neg q3] at h
        refine fx_iload (pc' := 29) hF d_MD_covers_27 4 rfl rfl ?_
        refine fx_aload_n (pc' := 30) hF d_MD_covers_29 rfl 0 rfl rfl ?_
        obtain ⟨a6, na6, ea6, ka6, h⟩ := fw_ld_some h
        refine fx_getr (pc' := 33) hC hk0 (by decide) rfl iw_MD 24 (by decide) (by decide) rfl na6 ea6 (hw _ wq_3_140) rfl d_MD_covers_30 rfl ?_
        refine fx_iconst (pc' := 34) hF (v := (5 : Int32)) d_MD_covers_33 rfl rfl ?_
        refine fx_iload_n (pc' := 35) hF d_MD_covers_34 rfl 1 rfl rfl ?_
        refine fx_imul (pc' := 36) hF d_MD_covers_35 rfl ?_
        refine fx_iload_n (pc' := 37) hF d_MD_covers_36 rfl 3 rfl rfl ?_
        refine fx_iload (pc' := 39) hF d_MD_covers_37 5 rfl rfl ?_
        refine fx_iadd (pc' := 40) hF d_MD_covers_39 rfl ?_
        refine fx_aload_n (pc' := 41) hF d_MD_covers_40 rfl 0 rfl rfl ?_
        refine fx_geti (pc' := 44) hC hk0 (by decide) rfl iw_MD 1 (by decide) (by decide) rfl (hw _ wq_3_117) rfl d_MD_covers_41 rfl ?_
        obtain ⟨q7, h⟩ := fw_gd_some h
        refine fx_irem (pc' := 45) hF d_MD_covers_44 (of_decide_eq_true q7) rfl ?_
        refine fx_iadd (pc' := 46) hF d_MD_covers_45 rfl ?_
        obtain ⟨q8, h⟩ := fw_gd_some h
        refine fx_zald (pc' := 47) hC ka6 q8 d_MD_covers_46 rfl ?_
        refine fx_if_eq hF (tgt := 54) (pc' := 50) d_MD_covers_47 rfl rfl (fun q9 => ?_) (fun q9 => ?_)
        · rw [if_pos q9] at h
          refine fx_iconst (pc' := 55) hF (v := (1 : Int32)) d_MD_covers_54 rfl rfl ?_
          refine fx_iadd (pc' := 56) hF d_MD_covers_55 rfl ?_
          refine fx_istore (pc' := 58) hF (lv' := [(4, .int (x4 + (1 : Int32))), (0, .ref (g k0)), (1, .int x1), (2, .int x2), (3, .int x3), (5, .int x5)]) d_MD_covers_56 (by decide) rfl rfl ?_
          refine fx_iinc (pc' := 61) hF (v := x5 + 1) (lv' := [(5, .int (x5 + 1)), (4, .int (x4 + (1 : Int32))), (0, .ref (g k0)), (1, .int x1), (2, .int x2), (3, .int x3)]) d_MD_covers_58 5 rfl rfl (by decide) rfl rfl ?_
          refine fx_goto hF (tgt := 18) d_MD_covers_61 rfl ?_
          refine fx_lv [2, 3, 4, 5, 1, 0] rfl ?_
          exact ih I x1 x2 x3 (x4 + (1 : Int32)) (x5 + 1) h
        · rw [if_neg q9] at h
          refine fx_iconst (pc' := 51) hF (v := (0 : Int32)) d_MD_covers_50 rfl rfl ?_
          refine fx_goto hF (tgt := 55) d_MD_covers_51 rfl ?_
          refine fx_iadd (pc' := 56) hF d_MD_covers_55 rfl ?_
          refine fx_istore (pc' := 58) hF (lv' := [(4, .int (x4 + (0 : Int32))), (0, .ref (g k0)), (1, .int x1), (2, .int x2), (3, .int x3), (5, .int x5)]) d_MD_covers_56 (by decide) rfl rfl ?_
          refine fx_iinc (pc' := 61) hF (v := x5 + 1) (lv' := [(5, .int (x5 + 1)), (4, .int (x4 + (0 : Int32))), (0, .ref (g k0)), (1, .int x1), (2, .int x2), (3, .int x3)]) d_MD_covers_58 5 rfl rfl (by decide) rfl rfl ?_
          refine fx_goto hF (tgt := 18) d_MD_covers_61 rfl ?_
          refine fx_lv [2, 3, 4, 5, 1, 0] rfl ?_
          exact ih I x1 x2 x3 (x4 + (0 : Int32)) (x5 + 1) h
  have B4 : ∀ (f : Nat) (I : Nat → Nat → Int32) (x1 : Int32) (x2 : Int32) (x3 : Int32), fn_MD_covers_4 K f I k0 x1 x2 x3 = some Rr → fw_G p l e r_MD_covers s m args below meth c 0 0 Q 6 D aC A g n K I 4 [(0, .ref (g k0)), (1, .int x1), (2, .int x2), (3, .int x3)] [] := by
    intro f
    induction f with
    | zero =>
      intro I x1 x2 x3 h
      rw [fn_MD_covers_4] at h
      cases h
    | succ f ih =>
      intro I x1 x2 x3 h
      rw [fn_MD_covers_4] at h
      refine fx_iload_n (pc' := 5) hF d_MD_covers_4 rfl 3 rfl rfl ?_
      refine fx_aload_n (pc' := 6) hF d_MD_covers_5 rfl 0 rfl rfl ?_
      refine fx_geti (pc' := 9) hC hk0 (by decide) rfl iw_MD 1 (by decide) (by decide) rfl (hw _ wq_3_117) rfl d_MD_covers_6 rfl ?_
      refine fx_icmp_ge hF (tgt := 89) (pc' := 12) d_MD_covers_9 rfl rfl (fun q1 => ?_) (fun q1 => ?_)
      · rw [if_pos q1] at h
        refine fx_iload_n (pc' := 90) hF d_MD_covers_89 rfl 2 rfl rfl ?_
        obtain ⟨q2, h⟩ := fw_gd_some h
        exact he I _ _ (fw_nz q2).1 _ d_MD_covers_90 h
      · rw [if_neg q1] at h
        refine fx_iconst (pc' := 13) hF (v := (0 : Int32)) d_MD_covers_12 rfl rfl ?_
        refine fx_istore (pc' := 15) hF (lv' := [(4, .int (0 : Int32)), (0, .ref (g k0)), (1, .int x1), (2, .int x2), (3, .int x3)]) d_MD_covers_13 (by decide) rfl rfl ?_
        refine fx_iconst (pc' := 16) hF (v := (0 : Int32)) d_MD_covers_15 rfl rfl ?_
        refine fx_istore (pc' := 18) hF (lv' := [(5, .int (0 : Int32)), (4, .int (0 : Int32)), (0, .ref (g k0)), (1, .int x1), (2, .int x2), (3, .int x3)]) d_MD_covers_16 (by decide) rfl rfl ?_
        refine fx_lv [2, 3, 4, 5, 1, 0] rfl ?_
        exact B18 (fn_MD_covers_4 K f) (fun I x1 x2 x3 h => ih I x1 x2 x3 h) 200 I x1 x2 x3 (0 : Int32) (0 : Int32) h
  change fw_G p l e r_MD_covers s m args below meth c 0 0 Q 6 D aC A g n K I 0 [(0, .ref (g k0)), (1, .int x1)] []
  refine fx_iconst (pc' := 1) hF (v := (1 : Int32)) d_MD_covers_0 rfl rfl ?_
  refine fx_istore_n (pc' := 2) hF (lv' := [(2, .int (1 : Int32)), (0, .ref (g k0)), (1, .int x1)]) d_MD_covers_1 rfl (by decide) rfl rfl ?_
  refine fx_iconst (pc' := 3) hF (v := (0 : Int32)) d_MD_covers_2 rfl rfl ?_
  refine fx_istore_n (pc' := 4) hF (lv' := [(3, .int (0 : Int32)), (2, .int (1 : Int32)), (0, .ref (g k0)), (1, .int x1)]) d_MD_covers_3 rfl (by decide) rfl rfl ?_
  refine fx_lv [2, 3, 1, 0] rfl ?_
  exact B4 200 I x1 (1 : Int32) (0 : Int32) h
set_option maxHeartbeats 4000000 in
set_option maxRecDepth 100000 in
theorem ct_MD_learns (l : Launch) (D : va_G) (aC : Nat → ClassId) (g : Nat → Nat) (n : Nat) (K : Nat → Nat × Nat) (I : Nat → Nat → Int32) (k0 : Nat) (x1 : Int32) (x2 : Int32) (x3 : Int32) (x4 : Int32) (x5 : Int32) (Rr : Nat → Nat → Int32) (hn : ∀ k, (K k).1 < 99 → k < n) (hk0 : (K k0).1 = 6) (h : fn_MD_learns K I k0 x1 x2 x3 x4 x5 = some Rr) : fw_Mv l y_MD_learns w_MD_learns r_MD_learns D aC g n K I [.ref (g k0), .int x1, .int x2, .int x3, .int x4, .int x5] Rr := by
  refine fw_ofGv (cc := b_MD_learns) (maxL := 8) (ws' := fw_ws) (by decide +kernel) hn (Nat.le_of_ble_eq_true rfl) rfl ?_
  intro p e s m args below meth c A Q hC hN hA he
  have hF := hC.1
  have hw : ∀ w ∈ fw_ws, w.before args s = true := fun w hw => hF.2.2.2.2 w (List.mem_cons_of_mem _ hw)
  unfold fn_MD_learns at h
  have B209 : ∀ (I : Nat → Nat → Int32) (x1 : Int32) (x2 : Int32) (x4 : Int32) (x6 : Int32), fn_MD_learns_209 K I k0 x1 x2 x4 x6 = some Rr → fw_G p l e r_MD_learns s m args below meth c 0 0 Q 8 D aC A g n K I 209 [(0, .ref (g k0)), (1, .int x1), (2, .int x2), (4, .int x4), (6, .int x6)] [] := by
    intro I x1 x2 x4 x6 h
    unfold fn_MD_learns_209 at h
    refine fx_iload_n (pc' := 210) hF d_MD_learns_209 rfl 1 rfl rfl ?_
    refine fx_iconst (pc' := 211) hF (v := (3 : Int32)) d_MD_learns_210 rfl rfl ?_
    refine fx_icmp_ne hF (tgt := 264) (pc' := 214) d_MD_learns_211 rfl rfl (fun q4 => ?_) (fun q4 => ?_)
    · rw [if_neg q4] at h
      exact he I _ _ d_MD_learns_264 h
    · rw [if_pos q4] at h
      refine fx_aload_n (pc' := 215) hF d_MD_learns_214 rfl 0 rfl rfl ?_
      obtain ⟨a5, na5, ea5, ka5, h⟩ := fw_ld_some h
      refine fx_getr (pc' := 218) hC hk0 (by decide) rfl iw_MD 19 (by decide) (by decide) rfl na5 ea5 (hw _ wq_3_135) rfl d_MD_learns_215 rfl ?_
      refine fx_iload_n (pc' := 219) hF d_MD_learns_218 rfl 2 rfl rfl ?_
      obtain ⟨q6, h⟩ := fw_gd_some h
      refine fx_iald (pc' := 220) hC ka5 q6 d_MD_learns_219 rfl ?_
      refine fx_iconst (pc' := 221) hF (v := (3 : Int32)) d_MD_learns_220 rfl rfl ?_
      refine fx_icmp_ne hF (tgt := 264) (pc' := 224) d_MD_learns_221 rfl rfl (fun q7 => ?_) (fun q7 => ?_)
      · rw [if_neg q7] at h
        exact he I _ _ d_MD_learns_264 h
      · rw [if_pos q7] at h
        refine fx_iload (pc' := 226) hF d_MD_learns_224 3 rfl rfl ?_
        refine fx_aload_n (pc' := 227) hF d_MD_learns_226 rfl 0 rfl rfl ?_
        obtain ⟨a8, na8, ea8, ka8, h⟩ := fw_ld_some h
        refine fx_getr (pc' := 230) hC hk0 (by decide) rfl iw_MD 21 (by decide) (by decide) rfl na8 ea8 (hw _ wq_3_137) rfl d_MD_learns_227 rfl ?_
        refine fx_iload_n (pc' := 231) hF d_MD_learns_230 rfl 2 rfl rfl ?_
        obtain ⟨q9, h⟩ := fw_gd_some h
        refine fx_iald (pc' := 232) hC ka8 q9 d_MD_learns_231 rfl ?_
        refine fx_icmp_ne hF (tgt := 264) (pc' := 235) d_MD_learns_232 rfl rfl (fun q10 => ?_) (fun q10 => ?_)
        · rw [if_neg q10] at h
          exact he I _ _ d_MD_learns_264 h
        · rw [if_pos q10] at h
          refine fx_aload_n (pc' := 236) hF d_MD_learns_235 rfl 0 rfl rfl ?_
          obtain ⟨a11, na11, ea11, ka11, h⟩ := fw_ld_some h
          refine fx_getr (pc' := 239) hC hk0 (by decide) rfl iw_MD 24 (by decide) (by decide) rfl na11 ea11 (hw _ wq_3_140) rfl d_MD_learns_236 rfl ?_
          refine fx_iload (pc' := 241) hF d_MD_learns_239 4 rfl rfl ?_
          refine fx_iconst (pc' := 242) hF (v := (1 : Int32)) d_MD_learns_241 rfl rfl ?_
          obtain ⟨q12, h⟩ := fw_gd_some h
          obtain ⟨I13, eI13, h⟩ := fw_let_some h
          refine fx_zast (pc' := 243) hC ka11 q12 rfl eI13 d_MD_learns_242 rfl ?_
          refine fx_aload_n (pc' := 244) hF d_MD_learns_243 rfl 0 rfl rfl ?_
          refine fx_iload_n (pc' := 245) hF d_MD_learns_244 rfl 2 rfl rfl ?_
          obtain ⟨r16, I14, c15, h⟩ := fw_bd_some h
          refine fx_callVi (pc' := 248) (As := [.int x2]) (st := []) hC hN hA hk0 (by decide) rfl (ct_MD_answerCount l D aC g n K I13 k0 x2 (r16, I14) hn hk0 c15) (cwV 1 hF.2.2.2.2 (fw_gV wq_4_12 wq_4_14 wsel_MD_answerCount wq_1_8 wq_4_15) rfl rfl rfl ⟨rfl, by decide +kernel, by decide +kernel, by decide +kernel⟩ ⟨Nat.le_of_ble_eq_true rfl, Nat.le_of_ble_eq_true rfl⟩) ⟨Nat.zero_le _, Nat.zero_le _⟩ rfl rfl (Nat.le_of_ble_eq_true rfl) d_MD_learns_245 rfl ?_
          refine fx_aload_n (pc' := 249) hF d_MD_learns_248 rfl 0 rfl rfl ?_
          refine fx_geti (pc' := 252) hC hk0 (by decide) rfl iw_MD 3 (by decide) (by decide) rfl (hw _ wq_3_119) rfl d_MD_learns_249 rfl ?_
          refine fx_icmp_lt hF (tgt := 264) (pc' := 255) d_MD_learns_252 rfl rfl (fun q17 => ?_) (fun q17 => ?_)
          · rw [if_pos q17] at h
            exact he I14 _ _ d_MD_learns_264 h
          · rw [if_neg q17] at h
            refine fx_aload_n (pc' := 256) hF d_MD_learns_255 rfl 0 rfl rfl ?_
            refine fx_iload_n (pc' := 257) hF d_MD_learns_256 rfl 2 rfl rfl ?_
            refine fx_iload (pc' := 259) hF d_MD_learns_257 3 rfl rfl ?_
            refine fx_iconst (pc' := 260) hF (v := (1 : Int32)) d_MD_learns_259 rfl rfl ?_
            refine fx_iadd (pc' := 261) hF d_MD_learns_260 rfl ?_
            obtain ⟨I18, c19, h⟩ := fw_bv_some h
            refine fx_callVv (pc' := 264) (As := [.int x2, .int (x4 + (1 : Int32))]) (st := []) hC hN hA hk0 (by decide) rfl (ct_MD_readOn l D aC g n K I14 k0 x2 (x4 + (1 : Int32)) I18 hn hk0 c19) (cwV 2 hF.2.2.2.2 (fw_gV wq_3_236 wq_3_238 wsel_MD_readOn wq_1_8 wq_3_239) rfl rfl rfl ⟨rfl, by decide +kernel, by decide +kernel, by decide +kernel⟩ ⟨Nat.le_of_ble_eq_true rfl, Nat.le_of_ble_eq_true rfl⟩) ⟨Nat.zero_le _, Nat.zero_le _⟩ rfl rfl (Nat.le_of_ble_eq_true rfl) d_MD_learns_261 rfl ?_
            exact he I18 _ _ d_MD_learns_264 h
  have B139 : ∀ (I : Nat → Nat → Int32) (x1 : Int32) (x2 : Int32) (x4 : Int32) (x6 : Int32), fn_MD_learns_139 K I k0 x1 x2 x4 x6 = some Rr → fw_G p l e r_MD_learns s m args below meth c 0 0 Q 8 D aC A g n K I 139 [(0, .ref (g k0)), (1, .int x1), (2, .int x2), (4, .int x4), (6, .int x6)] [] := by
    intro I x1 x2 x4 x6 h
    unfold fn_MD_learns_139 at h
    refine fx_iload_n (pc' := 140) hF d_MD_learns_139 rfl 1 rfl rfl ?_
    refine fx_bipush (pc' := 142) hF (v := (7 : Int32)) d_MD_learns_140 rfl rfl ?_
    refine fx_icmp_ne hF (tgt := 209) (pc' := 145) d_MD_learns_142 rfl rfl (fun q3 => ?_) (fun q3 => ?_)
    · rw [if_neg q3] at h
      exact B209 I x1 x2 x4 x6 h
    · rw [if_pos q3] at h
      refine fx_aload_n (pc' := 146) hF d_MD_learns_145 rfl 0 rfl rfl ?_
      obtain ⟨a20, na20, ea20, ka20, h⟩ := fw_ld_some h
      refine fx_getr (pc' := 149) hC hk0 (by decide) rfl iw_MD 19 (by decide) (by decide) rfl na20 ea20 (hw _ wq_3_135) rfl d_MD_learns_146 rfl ?_
      refine fx_iload_n (pc' := 150) hF d_MD_learns_149 rfl 2 rfl rfl ?_
      obtain ⟨q21, h⟩ := fw_gd_some h
      refine fx_iald (pc' := 151) hC ka20 q21 d_MD_learns_150 rfl ?_
      refine fx_iconst (pc' := 152) hF (v := (2 : Int32)) d_MD_learns_151 rfl rfl ?_
      refine fx_icmp_ne hF (tgt := 209) (pc' := 155) d_MD_learns_152 rfl rfl (fun q22 => ?_) (fun q22 => ?_)
      · rw [if_neg q22] at h
        exact B209 I x1 x2 x4 x6 h
      · rw [if_pos q22] at h
        refine fx_iload (pc' := 157) hF d_MD_learns_155 3 rfl rfl ?_
        refine fx_aload_n (pc' := 158) hF d_MD_learns_157 rfl 0 rfl rfl ?_
        obtain ⟨a23, na23, ea23, ka23, h⟩ := fw_ld_some h
        refine fx_getr (pc' := 161) hC hk0 (by decide) rfl iw_MD 21 (by decide) (by decide) rfl na23 ea23 (hw _ wq_3_137) rfl d_MD_learns_158 rfl ?_
        refine fx_iload_n (pc' := 162) hF d_MD_learns_161 rfl 2 rfl rfl ?_
        obtain ⟨q24, h⟩ := fw_gd_some h
        refine fx_iald (pc' := 163) hC ka23 q24 d_MD_learns_162 rfl ?_
        refine fx_icmp_ne hF (tgt := 209) (pc' := 166) d_MD_learns_163 rfl rfl (fun q25 => ?_) (fun q25 => ?_)
        · rw [if_neg q25] at h
          exact B209 I x1 x2 x4 x6 h
        · rw [if_pos q25] at h
          refine fx_aload_n (pc' := 167) hF d_MD_learns_166 rfl 0 rfl rfl ?_
          obtain ⟨a26, na26, ea26, ka26, h⟩ := fw_ld_some h
          refine fx_getr (pc' := 170) hC hk0 (by decide) rfl iw_MD 24 (by decide) (by decide) rfl na26 ea26 (hw _ wq_3_140) rfl d_MD_learns_167 rfl ?_
          refine fx_iload (pc' := 172) hF d_MD_learns_170 4 rfl rfl ?_
          refine fx_iconst (pc' := 173) hF (v := (1 : Int32)) d_MD_learns_172 rfl rfl ?_
          obtain ⟨q27, h⟩ := fw_gd_some h
          obtain ⟨I28, eI28, h⟩ := fw_let_some h
          refine fx_zast (pc' := 174) hC ka26 q27 rfl eI28 d_MD_learns_173 rfl ?_
          refine fx_aload_n (pc' := 175) hF d_MD_learns_174 rfl 0 rfl rfl ?_
          refine fx_iload_n (pc' := 176) hF d_MD_learns_175 rfl 2 rfl rfl ?_
          obtain ⟨r31, I29, c30, h⟩ := fw_bd_some h
          refine fx_callVi (pc' := 179) (As := [.int x2]) (st := []) hC hN hA hk0 (by decide) rfl (ct_MD_answerCount l D aC g n K I28 k0 x2 (r31, I29) hn hk0 c30) (cwV 1 hF.2.2.2.2 (fw_gV wq_4_12 wq_4_14 wsel_MD_answerCount wq_1_8 wq_4_15) rfl rfl rfl ⟨rfl, by decide +kernel, by decide +kernel, by decide +kernel⟩ ⟨Nat.le_of_ble_eq_true rfl, Nat.le_of_ble_eq_true rfl⟩) ⟨Nat.zero_le _, Nat.zero_le _⟩ rfl rfl (Nat.le_of_ble_eq_true rfl) d_MD_learns_176 rfl ?_
          refine fx_aload_n (pc' := 180) hF d_MD_learns_179 rfl 0 rfl rfl ?_
          refine fx_geti (pc' := 183) hC hk0 (by decide) rfl iw_MD 2 (by decide) (by decide) rfl (hw _ wq_3_118) rfl d_MD_learns_180 rfl ?_
          refine fx_aload_n (pc' := 184) hF d_MD_learns_183 rfl 0 rfl rfl ?_
          refine fx_geti (pc' := 187) hC hk0 (by decide) rfl iw_MD 3 (by decide) (by decide) rfl (hw _ wq_3_119) rfl d_MD_learns_184 rfl ?_
          refine fx_isub (pc' := 188) hF d_MD_learns_187 rfl ?_
          refine fx_iconst (pc' := 189) hF (v := (1 : Int32)) d_MD_learns_188 rfl rfl ?_
          refine fx_iadd (pc' := 190) hF d_MD_learns_189 rfl ?_
          refine fx_icmp_lt hF (tgt := 264) (pc' := 193) d_MD_learns_190 rfl rfl (fun q32 => ?_) (fun q32 => ?_)
          · rw [if_pos q32] at h
            exact he I29 _ _ d_MD_learns_264 h
          · rw [if_neg q32] at h
            refine fx_aload_n (pc' := 194) hF d_MD_learns_193 rfl 0 rfl rfl ?_
            refine fx_iload_n (pc' := 195) hF d_MD_learns_194 rfl 2 rfl rfl ?_
            refine fx_aload_n (pc' := 196) hF d_MD_learns_195 rfl 0 rfl rfl ?_
            obtain ⟨a33, na33, ea33, ka33, h⟩ := fw_ld_some h
            refine fx_getr (pc' := 199) hC hk0 (by decide) rfl iw_MD 21 (by decide) (by decide) rfl na33 ea33 (hw _ wq_3_137) rfl d_MD_learns_196 rfl ?_
            refine fx_iload_n (pc' := 200) hF d_MD_learns_199 rfl 2 rfl rfl ?_
            obtain ⟨q34, h⟩ := fw_gd_some h
            refine fx_iald (pc' := 201) hC ka33 q34 d_MD_learns_200 rfl ?_
            refine fx_iconst (pc' := 202) hF (v := (1 : Int32)) d_MD_learns_201 rfl rfl ?_
            refine fx_isub (pc' := 203) hF d_MD_learns_202 rfl ?_
            obtain ⟨I35, c36, h⟩ := fw_bv_some h
            refine fx_callVv (pc' := 206) (As := [.int x2, .int ((I29 a33 x2.toNatClampNeg) - (1 : Int32))]) (st := []) hC hN hA hk0 (by decide) rfl (ct_MD_finish l D aC g n K I29 k0 x2 ((I29 a33 x2.toNatClampNeg) - (1 : Int32)) I35 hn hk0 c36) (cwV 2 hF.2.2.2.2 (fw_gV wq_4_0 wq_4_2 wsel_MD_finish wq_1_8 wq_4_3) rfl rfl rfl ⟨rfl, by decide +kernel, by decide +kernel, by decide +kernel⟩ ⟨Nat.le_of_ble_eq_true rfl, Nat.le_of_ble_eq_true rfl⟩) ⟨Nat.zero_le _, Nat.zero_le _⟩ rfl rfl (Nat.le_of_ble_eq_true rfl) d_MD_learns_203 rfl ?_
            refine fx_goto hF (tgt := 264) d_MD_learns_206 rfl ?_
            exact he I35 _ _ d_MD_learns_264 h
  have B82 : ∀ (I : Nat → Nat → Int32) (x1 : Int32) (x2 : Int32) (x4 : Int32) (x5 : Int32) (x6 : Int32), fn_MD_learns_82 K I k0 x1 x2 x4 x5 x6 = some Rr → fw_G p l e r_MD_learns s m args below meth c 0 0 Q 8 D aC A g n K I 82 [(0, .ref (g k0)), (1, .int x1), (2, .int x2), (4, .int x4), (5, .int x5), (6, .int x6)] [] := by
    intro I x1 x2 x4 x5 x6 h
    unfold fn_MD_learns_82 at h
    refine fx_iload_n (pc' := 83) hF d_MD_learns_82 rfl 1 rfl rfl ?_
    refine fx_bipush (pc' := 85) hF (v := (6 : Int32)) d_MD_learns_83 rfl rfl ?_
    refine fx_icmp_ne hF (tgt := 139) (pc' := 88) d_MD_learns_85 rfl rfl (fun q2 => ?_) (fun q2 => ?_)
    · rw [if_neg q2] at h
      refine fx_lv [0, 1, 2, 3, 5] rfl ?_
      exact B139 I x1 x2 x4 x6 h
    · rw [if_pos q2] at h
      refine fx_aload_n (pc' := 89) hF d_MD_learns_88 rfl 0 rfl rfl ?_
      obtain ⟨a37, na37, ea37, ka37, h⟩ := fw_ld_some h
      refine fx_getr (pc' := 92) hC hk0 (by decide) rfl iw_MD 19 (by decide) (by decide) rfl na37 ea37 (hw _ wq_3_135) rfl d_MD_learns_89 rfl ?_
      refine fx_iload_n (pc' := 93) hF d_MD_learns_92 rfl 2 rfl rfl ?_
      obtain ⟨q38, h⟩ := fw_gd_some h
      refine fx_iald (pc' := 94) hC ka37 q38 d_MD_learns_93 rfl ?_
      refine fx_iconst (pc' := 95) hF (v := (2 : Int32)) d_MD_learns_94 rfl rfl ?_
      refine fx_icmp_ne hF (tgt := 139) (pc' := 98) d_MD_learns_95 rfl rfl (fun q39 => ?_) (fun q39 => ?_)
      · rw [if_neg q39] at h
        refine fx_lv [0, 1, 2, 3, 5] rfl ?_
        exact B139 I x1 x2 x4 x6 h
      · rw [if_pos q39] at h
        refine fx_iload (pc' := 100) hF d_MD_learns_98 3 rfl rfl ?_
        refine fx_aload_n (pc' := 101) hF d_MD_learns_100 rfl 0 rfl rfl ?_
        obtain ⟨a40, na40, ea40, ka40, h⟩ := fw_ld_some h
        refine fx_getr (pc' := 104) hC hk0 (by decide) rfl iw_MD 21 (by decide) (by decide) rfl na40 ea40 (hw _ wq_3_137) rfl d_MD_learns_101 rfl ?_
        refine fx_iload_n (pc' := 105) hF d_MD_learns_104 rfl 2 rfl rfl ?_
        obtain ⟨q41, h⟩ := fw_gd_some h
        refine fx_iald (pc' := 106) hC ka40 q41 d_MD_learns_105 rfl ?_
        refine fx_icmp_ne hF (tgt := 139) (pc' := 109) d_MD_learns_106 rfl rfl (fun q42 => ?_) (fun q42 => ?_)
        · rw [if_neg q42] at h
          refine fx_lv [0, 1, 2, 3, 5] rfl ?_
          exact B139 I x1 x2 x4 x6 h
        · rw [if_pos q42] at h
          refine fx_aload_n (pc' := 110) hF d_MD_learns_109 rfl 0 rfl rfl ?_
          obtain ⟨a43, na43, ea43, ka43, h⟩ := fw_ld_some h
          refine fx_getr (pc' := 113) hC hk0 (by decide) rfl iw_MD 19 (by decide) (by decide) rfl na43 ea43 (hw _ wq_3_135) rfl d_MD_learns_110 rfl ?_
          refine fx_iload_n (pc' := 114) hF d_MD_learns_113 rfl 2 rfl rfl ?_
          refine fx_iconst (pc' := 115) hF (v := (3 : Int32)) d_MD_learns_114 rfl rfl ?_
          obtain ⟨q44, h⟩ := fw_gd_some h
          obtain ⟨I45, eI45, h⟩ := fw_let_some h
          refine fx_iast (pc' := 116) hC ka43 q44 eI45 d_MD_learns_115 rfl ?_
          refine fx_aload_n (pc' := 117) hF d_MD_learns_116 rfl 0 rfl rfl ?_
          obtain ⟨a46, na46, ea46, ka46, h⟩ := fw_ld_some h
          refine fx_getr (pc' := 120) hC hk0 (by decide) rfl iw_MD 23 (by decide) (by decide) rfl na46 ea46 (hw _ wq_3_139) rfl d_MD_learns_117 rfl ?_
          refine fx_iload_n (pc' := 121) hF d_MD_learns_120 rfl 2 rfl rfl ?_
          refine fx_iload (pc' := 123) hF d_MD_learns_121 4 rfl rfl ?_
          obtain ⟨q47, h⟩ := fw_gd_some h
          obtain ⟨I48, eI48, h⟩ := fw_let_some h
          refine fx_iast (pc' := 124) hC ka46 q47 eI48 d_MD_learns_123 rfl ?_
          refine fx_aload_n (pc' := 125) hF d_MD_learns_124 rfl 0 rfl rfl ?_
          refine fx_iload_n (pc' := 126) hF d_MD_learns_125 rfl 2 rfl rfl ?_
          obtain ⟨I49, c50, h⟩ := fw_bv_some h
          refine fx_callVv (pc' := 129) (As := [.int x2]) (st := []) hC hN hA hk0 (by decide) rfl (ct_MD_forget l D aC g n K I48 k0 x2 I49 hn hk0 c50) (cwV 1 hF.2.2.2.2 (fw_gV wq_4_4 wq_4_6 wsel_MD_forget wq_1_8 wq_4_7) rfl rfl rfl ⟨rfl, by decide +kernel, by decide +kernel, by decide +kernel⟩ ⟨Nat.le_of_ble_eq_true rfl, Nat.le_of_ble_eq_true rfl⟩) ⟨Nat.zero_le _, Nat.zero_le _⟩ rfl rfl (Nat.le_of_ble_eq_true rfl) d_MD_learns_126 rfl ?_
          refine fx_aload_n (pc' := 130) hF d_MD_learns_129 rfl 0 rfl rfl ?_
          refine fx_iload_n (pc' := 131) hF d_MD_learns_130 rfl 2 rfl rfl ?_
          obtain ⟨r53, I51, c52, h⟩ := fw_bd_some h
          refine fx_callVi (pc' := 134) (As := [.int x2]) (st := []) hC hN hA hk0 (by decide) rfl (ct_MD_ask l D aC g n K I49 k0 x2 (r53, I51) hn hk0 c52) (cwV 1 hF.2.2.2.2 (fw_gV wq_4_8 wq_4_10 wsel_MD_ask wq_1_8 wq_4_11) rfl rfl rfl ⟨rfl, by decide +kernel, by decide +kernel, by decide +kernel⟩ ⟨Nat.le_of_ble_eq_true rfl, Nat.le_of_ble_eq_true rfl⟩) ⟨Nat.zero_le _, Nat.zero_le _⟩ rfl rfl (Nat.le_of_ble_eq_true rfl) d_MD_learns_131 rfl ?_
          refine fx_istore (pc' := 136) hF (lv' := [(7, .int r53), (0, .ref (g k0)), (1, .int x1), (2, .int x2), (4, .int x4), (5, .int x5), (6, .int x6)]) d_MD_learns_134 (by decide) rfl rfl ?_
          refine fx_goto hF (tgt := 264) d_MD_learns_136 rfl ?_
          exact he I51 _ _ d_MD_learns_264 h
  change fw_G p l e r_MD_learns s m args below meth c 0 0 Q 8 D aC A g n K I 0 [(0, .ref (g k0)), (1, .int x1), (2, .int x2), (3, .int x3), (4, .int x4), (5, .int x5)] []
  refine fx_iconst (pc' := 1) hF (v := (5 : Int32)) d_MD_learns_0 rfl rfl ?_
  refine fx_iload_n (pc' := 2) hF d_MD_learns_1 rfl 2 rfl rfl ?_
  refine fx_imul (pc' := 3) hF d_MD_learns_2 rfl ?_
  refine fx_iload_n (pc' := 4) hF d_MD_learns_3 rfl 3 rfl rfl ?_
  refine fx_iadd (pc' := 5) hF d_MD_learns_4 rfl ?_
  refine fx_istore (pc' := 7) hF (lv' := [(6, .int (((5 : Int32) * x2) + x3)), (0, .ref (g k0)), (1, .int x1), (2, .int x2), (3, .int x3), (4, .int x4), (5, .int x5)]) d_MD_learns_5 (by decide) rfl rfl ?_
  refine fx_iload_n (pc' := 8) hF d_MD_learns_7 rfl 2 rfl rfl ?_
  refine fx_iconst (pc' := 9) hF (v := (5 : Int32)) d_MD_learns_8 rfl rfl ?_
  refine fx_icmp_ne hF (tgt := 82) (pc' := 12) d_MD_learns_9 rfl rfl (fun q1 => ?_) (fun q1 => ?_)
  · rw [if_neg q1] at h
    refine fx_lv [1, 2, 3, 5, 6, 0] rfl ?_
    exact B82 I x1 x2 x4 x5 (((5 : Int32) * x2) + x3) h
  · rw [if_pos q1] at h
    refine fx_aload_n (pc' := 13) hF d_MD_learns_12 rfl 1 rfl rfl ?_
    obtain ⟨a54, na54, ea54, ka54, h⟩ := fw_ld_some h
    refine fx_getr (pc' := 16) hC hk0 (by decide) rfl iw_MD 19 (by decide) (by decide) rfl na54 ea54 (hw _ wq_3_135) rfl d_MD_learns_13 rfl ?_
    refine fx_iload_n (pc' := 17) hF d_MD_learns_16 rfl 3 rfl rfl ?_
    obtain ⟨q55, h⟩ := fw_gd_some h
    refine fx_iald (pc' := 18) hC ka54 q55 d_MD_learns_17 rfl ?_
    refine fx_iconst (pc' := 19) hF (v := (1 : Int32)) d_MD_learns_18 rfl rfl ?_
    refine fx_icmp_ne hF (tgt := 82) (pc' := 22) d_MD_learns_19 rfl rfl (fun q56 => ?_) (fun q56 => ?_)
    · rw [if_neg q56] at h
      refine fx_lv [1, 2, 3, 5, 6, 0] rfl ?_
      exact B82 I x1 x2 x4 x5 (((5 : Int32) * x2) + x3) h
    · rw [if_pos q56] at h
      refine fx_aload_n (pc' := 23) hF d_MD_learns_22 rfl 1 rfl rfl ?_
      obtain ⟨a57, na57, ea57, ka57, h⟩ := fw_ld_some h
      refine fx_getr (pc' := 26) hC hk0 (by decide) rfl iw_MD 24 (by decide) (by decide) rfl na57 ea57 (hw _ wq_3_140) rfl d_MD_learns_23 rfl ?_
      refine fx_iload (pc' := 28) hF d_MD_learns_26 0 rfl rfl ?_
      refine fx_iconst (pc' := 29) hF (v := (1 : Int32)) d_MD_learns_28 rfl rfl ?_
      obtain ⟨q58, h⟩ := fw_gd_some h
      obtain ⟨I59, eI59, h⟩ := fw_let_some h
      refine fx_zast (pc' := 30) hC ka57 q58 rfl eI59 d_MD_learns_29 rfl ?_
      refine fx_aload_n (pc' := 31) hF d_MD_learns_30 rfl 1 rfl rfl ?_
      obtain ⟨a60, na60, ea60, ka60, h⟩ := fw_ld_some h
      refine fx_getr (pc' := 34) hC hk0 (by decide) rfl iw_MD 22 (by decide) (by decide) rfl na60 ea60 (hw _ wq_3_138) rfl d_MD_learns_31 rfl ?_
      refine fx_iload_n (pc' := 35) hF d_MD_learns_34 rfl 3 rfl rfl ?_
      refine fx_iload (pc' := 37) hF d_MD_learns_35 6 rfl rfl ?_
      refine fx_aload_n (pc' := 38) hF d_MD_learns_37 rfl 1 rfl rfl ?_
      obtain ⟨a61, na61, ea61, ka61, h⟩ := fw_ld_some h
      refine fx_getr (pc' := 41) hC hk0 (by decide) rfl iw_MD 22 (by decide) (by decide) rfl na61 ea61 (hw _ wq_3_138) rfl d_MD_learns_38 rfl ?_
      refine fx_iload_n (pc' := 42) hF d_MD_learns_41 rfl 3 rfl rfl ?_
      obtain ⟨q62, h⟩ := fw_gd_some h
      refine fx_iald (pc' := 43) hC ka61 q62 d_MD_learns_42 rfl ?_
      refine fx_icmp_le hF (tgt := 51) (pc' := 46) d_MD_learns_43 rfl rfl (fun q63 => ?_) (fun q63 => ?_)
      · rw [if_pos q63] at h
        refine fx_aload_n (pc' := 52) hF d_MD_learns_51 rfl 1 rfl rfl ?_
        obtain ⟨a64, na64, ea64, ka64, h⟩ := fw_ld_some h
        refine fx_getr (pc' := 55) hC hk0 (by decide) rfl iw_MD 22 (by decide) (by decide) rfl na64 ea64 (hw _ wq_3_138) rfl d_MD_learns_52 rfl ?_
        refine fx_iload_n (pc' := 56) hF d_MD_learns_55 rfl 3 rfl rfl ?_
        obtain ⟨q65, h⟩ := fw_gd_some h
        refine fx_iald (pc' := 57) hC ka64 q65 d_MD_learns_56 rfl ?_
        obtain ⟨q66, h⟩ := fw_gd_some h
        obtain ⟨I67, eI67, h⟩ := fw_let_some h
        refine fx_iast (pc' := 58) hC ka60 q66 eI67 d_MD_learns_57 rfl ?_
        refine fx_aload_n (pc' := 59) hF d_MD_learns_58 rfl 1 rfl rfl ?_
        refine fx_iload_n (pc' := 60) hF d_MD_learns_59 rfl 3 rfl rfl ?_
        obtain ⟨r70, I68, c69, h⟩ := fw_bd_some h
        refine fx_callVi (pc' := 63) (As := [.int x2]) (st := []) hC hN hA hk0 (by decide) rfl (ct_MD_covers l D aC g n K I67 k0 x2 (r70, I68) hn hk0 c69) (cwV 1 hF.2.2.2.2 (fw_gV wq_3_232 wq_3_234 wsel_MD_covers wq_1_8 wq_3_235) rfl rfl rfl ⟨rfl, by decide +kernel, by decide +kernel, by decide +kernel⟩ ⟨Nat.le_of_ble_eq_true rfl, Nat.le_of_ble_eq_true rfl⟩) ⟨Nat.zero_le _, Nat.zero_le _⟩ rfl rfl (Nat.le_of_ble_eq_true rfl) d_MD_learns_60 rfl ?_
        refine fx_if_eq hF (tgt := 264) (pc' := 66) d_MD_learns_63 rfl rfl (fun q71 => ?_) (fun q71 => ?_)
        · rw [if_pos q71] at h
          exact he I68 _ _ d_MD_learns_264 h
        · rw [if_neg q71] at h
          refine fx_aload_n (pc' := 67) hF d_MD_learns_66 rfl 1 rfl rfl ?_
          refine fx_iload_n (pc' := 68) hF d_MD_learns_67 rfl 3 rfl rfl ?_
          refine fx_aload_n (pc' := 69) hF d_MD_learns_68 rfl 1 rfl rfl ?_
          obtain ⟨a72, na72, ea72, ka72, h⟩ := fw_ld_some h
          refine fx_getr (pc' := 72) hC hk0 (by decide) rfl iw_MD 22 (by decide) (by decide) rfl na72 ea72 (hw _ wq_3_138) rfl d_MD_learns_69 rfl ?_
          refine fx_iload_n (pc' := 73) hF d_MD_learns_72 rfl 3 rfl rfl ?_
          obtain ⟨q73, h⟩ := fw_gd_some h
          refine fx_iald (pc' := 74) hC ka72 q73 d_MD_learns_73 rfl ?_
          refine fx_iconst (pc' := 75) hF (v := (1 : Int32)) d_MD_learns_74 rfl rfl ?_
          refine fx_iadd (pc' := 76) hF d_MD_learns_75 rfl ?_
          obtain ⟨I74, c75, h⟩ := fw_bv_some h
          refine fx_callVv (pc' := 79) (As := [.int x2, .int ((I68 a72 x2.toNatClampNeg) + (1 : Int32))]) (st := []) hC hN hA hk0 (by decide) rfl (ct_MD_readOn l D aC g n K I68 k0 x2 ((I68 a72 x2.toNatClampNeg) + (1 : Int32)) I74 hn hk0 c75) (cwV 2 hF.2.2.2.2 (fw_gV wq_3_236 wq_3_238 wsel_MD_readOn wq_1_8 wq_3_239) rfl rfl rfl ⟨rfl, by decide +kernel, by decide +kernel, by decide +kernel⟩ ⟨Nat.le_of_ble_eq_true rfl, Nat.le_of_ble_eq_true rfl⟩) ⟨Nat.zero_le _, Nat.zero_le _⟩ rfl rfl (Nat.le_of_ble_eq_true rfl) d_MD_learns_76 rfl ?_
          refine fx_goto hF (tgt := 264) d_MD_learns_79 rfl ?_
          exact he I74 _ _ d_MD_learns_264 h
      · rw [if_neg q63] at h
        refine fx_iload (pc' := 48) hF d_MD_learns_46 6 rfl rfl ?_
        refine fx_goto hF (tgt := 57) d_MD_learns_48 rfl ?_
        obtain ⟨q76, h⟩ := fw_gd_some h
        obtain ⟨I77, eI77, h⟩ := fw_let_some h
        refine fx_iast (pc' := 58) hC ka60 q76 eI77 d_MD_learns_57 rfl ?_
        refine fx_aload_n (pc' := 59) hF d_MD_learns_58 rfl 1 rfl rfl ?_
        refine fx_iload_n (pc' := 60) hF d_MD_learns_59 rfl 3 rfl rfl ?_
        obtain ⟨r80, I78, c79, h⟩ := fw_bd_some h
        refine fx_callVi (pc' := 63) (As := [.int x2]) (st := []) hC hN hA hk0 (by decide) rfl (ct_MD_covers l D aC g n K I77 k0 x2 (r80, I78) hn hk0 c79) (cwV 1 hF.2.2.2.2 (fw_gV wq_3_232 wq_3_234 wsel_MD_covers wq_1_8 wq_3_235) rfl rfl rfl ⟨rfl, by decide +kernel, by decide +kernel, by decide +kernel⟩ ⟨Nat.le_of_ble_eq_true rfl, Nat.le_of_ble_eq_true rfl⟩) ⟨Nat.zero_le _, Nat.zero_le _⟩ rfl rfl (Nat.le_of_ble_eq_true rfl) d_MD_learns_60 rfl ?_
        refine fx_if_eq hF (tgt := 264) (pc' := 66) d_MD_learns_63 rfl rfl (fun q81 => ?_) (fun q81 => ?_)
        · rw [if_pos q81] at h
          exact he I78 _ _ d_MD_learns_264 h
        · rw [if_neg q81] at h
          refine fx_aload_n (pc' := 67) hF d_MD_learns_66 rfl 1 rfl rfl ?_
          refine fx_iload_n (pc' := 68) hF d_MD_learns_67 rfl 3 rfl rfl ?_
          refine fx_aload_n (pc' := 69) hF d_MD_learns_68 rfl 1 rfl rfl ?_
          obtain ⟨a82, na82, ea82, ka82, h⟩ := fw_ld_some h
          refine fx_getr (pc' := 72) hC hk0 (by decide) rfl iw_MD 22 (by decide) (by decide) rfl na82 ea82 (hw _ wq_3_138) rfl d_MD_learns_69 rfl ?_
          refine fx_iload_n (pc' := 73) hF d_MD_learns_72 rfl 3 rfl rfl ?_
          obtain ⟨q83, h⟩ := fw_gd_some h
          refine fx_iald (pc' := 74) hC ka82 q83 d_MD_learns_73 rfl ?_
          refine fx_iconst (pc' := 75) hF (v := (1 : Int32)) d_MD_learns_74 rfl rfl ?_
          refine fx_iadd (pc' := 76) hF d_MD_learns_75 rfl ?_
          obtain ⟨I84, c85, h⟩ := fw_bv_some h
          refine fx_callVv (pc' := 79) (As := [.int x2, .int ((I78 a82 x2.toNatClampNeg) + (1 : Int32))]) (st := []) hC hN hA hk0 (by decide) rfl (ct_MD_readOn l D aC g n K I78 k0 x2 ((I78 a82 x2.toNatClampNeg) + (1 : Int32)) I84 hn hk0 c85) (cwV 2 hF.2.2.2.2 (fw_gV wq_3_236 wq_3_238 wsel_MD_readOn wq_1_8 wq_3_239) rfl rfl rfl ⟨rfl, by decide +kernel, by decide +kernel, by decide +kernel⟩ ⟨Nat.le_of_ble_eq_true rfl, Nat.le_of_ble_eq_true rfl⟩) ⟨Nat.zero_le _, Nat.zero_le _⟩ rfl rfl (Nat.le_of_ble_eq_true rfl) d_MD_learns_76 rfl ?_
          refine fx_goto hF (tgt := 264) d_MD_learns_79 rfl ?_
          exact he I84 _ _ d_MD_learns_264 h
