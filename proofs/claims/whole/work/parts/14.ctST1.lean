set_option maxHeartbeats 4000000 in
set_option maxRecDepth 100000 in
theorem ct_ST_keep (l : Launch) (D : va_G) (aC : Nat → ClassId) (g : Nat → Nat) (n : Nat) (K : Nat → Nat × Nat) (I : Nat → Nat → Int32) (k0 : Nat) (x1 : Int32) (x2 : Int32) (x3 : Int32) (Rr : Nat → Nat → Int32) (hn : ∀ k, (K k).1 < 99 → k < n) (hk0 : (K k0).1 = 3) (h : fn_ST_keep K I k0 x1 x2 x3 = some Rr) : fw_Mv l y_ST_keep w_ST_keep r_ST_keep D aC g n K I [.ref (g k0), .int x1, .int x2, .int x3] Rr := by
  refine fw_ofGv (cc := b_ST_keep) (maxL := 4) (ws' := fw_ws) (by decide +kernel) hn (Nat.le_of_ble_eq_true rfl) rfl ?_
  intro p e s m args below meth c A Q hC hN hA he
  have hF := hC.1
  have hw : ∀ w ∈ fw_ws, w.before args s = true := fun w hw => hF.2.2.2.2 w (List.mem_cons_of_mem _ hw)
  unfold fn_ST_keep at h
  have B26 : ∀ (I : Nat → Nat → Int32) (x1 : Int32) (x2 : Int32) (x3 : Int32), fn_ST_keep_26 K I k0 x1 x2 x3 = some Rr → fw_G p l e r_ST_keep s m args below meth c 0 0 Q 4 D aC A g n K I 26 [(0, .ref (g k0)), (1, .int x1), (2, .int x2), (3, .int x3)] [] := by
    intro I x1 x2 x3 h
    unfold fn_ST_keep_26 at h
    refine fx_aload_n (pc' := 27) hF d_ST_keep_26 rfl 0 rfl rfl ?_
    obtain ⟨a4, na4, ea4, ka4, h⟩ := fw_ld_some h
    refine fx_getr (pc' := 30) hC hk0 (by decide) rfl iw_ST 1 (by decide) (by decide) rfl na4 ea4 (hw _ wq_1_42) rfl d_ST_keep_27 rfl ?_
    refine fx_iload_n (pc' := 31) hF d_ST_keep_30 rfl 1 rfl rfl ?_
    refine fx_iload_n (pc' := 32) hF d_ST_keep_31 rfl 2 rfl rfl ?_
    obtain ⟨q5, h⟩ := fw_gd_some h
    obtain ⟨I6, eI6, h⟩ := fw_let_some h
    refine fx_iast (pc' := 33) hC ka4 q5 eI6 d_ST_keep_32 rfl ?_
    refine fx_aload_n (pc' := 34) hF d_ST_keep_33 rfl 0 rfl rfl ?_
    refine fx_aload_n (pc' := 35) hF d_ST_keep_34 rfl 0 rfl rfl ?_
    refine fx_geti (pc' := 38) hC hk0 (by decide) rfl iw_ST 4 (by decide) (by decide) rfl (hw _ wq_1_48) rfl d_ST_keep_35 rfl ?_
    refine fx_iload_n (pc' := 39) hF d_ST_keep_38 rfl 3 rfl rfl ?_
    refine fx_mmax (pc' := 42) hF (hw _ wq_2_114) (hw _ wq_1_31) (hw _ wq_1_2) (hw _ wq_1_32) (Nat.le_of_ble_eq_true rfl) (Nat.le_of_ble_eq_true rfl) ⟨Nat.zero_le _, Nat.zero_le _⟩ d_ST_keep_39 rfl ?_
    obtain ⟨I7, eI7, h⟩ := fw_let_some h
    refine fx_puti (pc' := 45) hC hk0 (by decide) rfl iw_ST 4 (by decide) (by decide) rfl ty_ST tyok_ST nn_ST rfl eI7 (tyok_ST 4 (by decide)) rfl rfl (hw _ wq_1_48) rfl d_ST_keep_42 rfl ?_
    exact he I7 _ _ d_ST_keep_45 h
  change fw_G p l e r_ST_keep s m args below meth c 0 0 Q 4 D aC A g n K I 0 [(0, .ref (g k0)), (1, .int x1), (2, .int x2), (3, .int x3)] []
  refine fx_aload_n (pc' := 1) hF d_ST_keep_0 rfl 0 rfl rfl ?_
  obtain ⟨a1, na1, ea1, ka1, h⟩ := fw_ld_some h
  refine fx_getr (pc' := 4) hC hk0 (by decide) rfl iw_ST 0 (by decide) (by decide) rfl na1 ea1 (hw _ wq_1_40) rfl d_ST_keep_1 rfl ?_
  refine fx_iload_n (pc' := 5) hF d_ST_keep_4 rfl 1 rfl rfl ?_
  obtain ⟨q2, h⟩ := fw_gd_some h
  refine fx_zald (pc' := 6) hC ka1 q2 d_ST_keep_5 rfl ?_
  refine fx_if_ne hF (tgt := 26) (pc' := 9) d_ST_keep_6 rfl rfl (fun q3 => ?_) (fun q3 => ?_)
  · rw [if_neg q3] at h
    exact B26 I x1 x2 x3 h
  · rw [if_pos q3] at h
    refine fx_aload_n (pc' := 10) hF d_ST_keep_9 rfl 0 rfl rfl ?_
    obtain ⟨a8, na8, ea8, ka8, h⟩ := fw_ld_some h
    refine fx_getr (pc' := 13) hC hk0 (by decide) rfl iw_ST 0 (by decide) (by decide) rfl na8 ea8 (hw _ wq_1_40) rfl d_ST_keep_10 rfl ?_
    refine fx_iload_n (pc' := 14) hF d_ST_keep_13 rfl 1 rfl rfl ?_
    refine fx_iconst (pc' := 15) hF (v := (1 : Int32)) d_ST_keep_14 rfl rfl ?_
    obtain ⟨q9, h⟩ := fw_gd_some h
    obtain ⟨I10, eI10, h⟩ := fw_let_some h
    refine fx_zast (pc' := 16) hC ka8 q9 rfl eI10 d_ST_keep_15 rfl ?_
    refine fx_aload_n (pc' := 17) hF d_ST_keep_16 rfl 0 rfl rfl ?_
    refine fx_dup (pc' := 18) hF d_ST_keep_17 rfl rfl ?_
    refine fx_geti (pc' := 21) hC hk0 (by decide) rfl iw_ST 5 (by decide) (by decide) rfl (hw _ wq_1_50) rfl d_ST_keep_18 rfl ?_
    refine fx_iconst (pc' := 22) hF (v := (1 : Int32)) d_ST_keep_21 rfl rfl ?_
    refine fx_iadd (pc' := 23) hF d_ST_keep_22 rfl ?_
    obtain ⟨I11, eI11, h⟩ := fw_let_some h
    refine fx_puti (pc' := 26) hC hk0 (by decide) rfl iw_ST 5 (by decide) (by decide) rfl ty_ST tyok_ST nn_ST rfl eI11 (tyok_ST 5 (by decide)) rfl rfl (hw _ wq_1_50) rfl d_ST_keep_23 rfl ?_
    exact B26 I11 x1 x2 x3 h
set_option maxHeartbeats 4000000 in
set_option maxRecDepth 100000 in
theorem ct_ST_detail (l : Launch) (D : va_G) (aC : Nat → ClassId) (g : Nat → Nat) (n : Nat) (K : Nat → Nat × Nat) (I : Nat → Nat → Int32) (k0 : Nat) (x1 : Int32) (Rr : Int32 × (Nat → Nat → Int32)) (hn : ∀ k, (K k).1 < 99 → k < n) (hk0 : (K k0).1 = 3) (h : fn_ST_detail K I k0 x1 = some Rr) : fw_Mi l y_ST_detail w_ST_detail r_ST_detail D aC g n K I [.ref (g k0), .int x1] Rr := by
  refine fw_ofGi (cc := b_ST_detail) (maxL := 2) (ws' := fw_ws) (by decide +kernel) hn (Nat.le_of_ble_eq_true rfl) rfl ?_
  intro p e s m args below meth c A Q hC hN hA he
  have hF := hC.1
  have hw : ∀ w ∈ fw_ws, w.before args s = true := fun w hw => hF.2.2.2.2 w (List.mem_cons_of_mem _ hw)
  unfold fn_ST_detail at h
  change fw_G p l e r_ST_detail s m args below meth c 0 0 Q 2 D aC A g n K I 0 [(0, .ref (g k0)), (1, .int x1)] []
  refine fx_iload_n (pc' := 1) hF d_ST_detail_0 rfl 1 rfl rfl ?_
  by_cases q1 : x1 = (0 : Int32)
  · rw [if_pos q1] at h
    refine fx_swIn hF (tgt := 32) d_ST_detail_1 (by rw [q1]; decide) (by rw [q1]; decide) (by rw [q1]; rfl) rfl ?_
    refine fx_aload_n (pc' := 33) hF d_ST_detail_32 rfl 0 rfl rfl ?_
    refine fx_geti (pc' := 36) hC hk0 (by decide) rfl iw_ST 2 (by decide) (by decide) rfl (hw _ wq_1_44) rfl d_ST_detail_33 rfl ?_
    refine fx_if_eq hF (tgt := 43) (pc' := 39) d_ST_detail_36 rfl rfl (fun q2 => ?_) (fun q2 => ?_)
    · rw [if_pos q2] at h
      refine fx_iconst (pc' := 44) hF (v := (0 : Int32)) d_ST_detail_43 rfl rfl ?_
      exact he I _ _ rfl _ d_ST_detail_44 h
    · rw [if_neg q2] at h
      refine fx_iconst (pc' := 40) hF (v := (1 : Int32)) d_ST_detail_39 rfl rfl ?_
      refine fx_goto hF (tgt := 44) d_ST_detail_40 rfl ?_
      exact he I _ _ rfl _ d_ST_detail_44 h
  · rw [if_neg q1] at h
    by_cases q3 : x1 = (1 : Int32)
    · rw [if_pos q3] at h
      refine fx_swIn hF (tgt := 45) d_ST_detail_1 (by rw [q3]; decide) (by rw [q3]; decide) (by rw [q3]; rfl) rfl ?_
      refine fx_aload_n (pc' := 46) hF d_ST_detail_45 rfl 0 rfl rfl ?_
      refine fx_geti (pc' := 49) hC hk0 (by decide) rfl iw_ST 3 (by decide) (by decide) rfl (hw _ wq_1_46) rfl d_ST_detail_46 rfl ?_
      refine fx_if_eq hF (tgt := 56) (pc' := 52) d_ST_detail_49 rfl rfl (fun q4 => ?_) (fun q4 => ?_)
      · rw [if_pos q4] at h
        refine fx_iconst (pc' := 57) hF (v := (0 : Int32)) d_ST_detail_56 rfl rfl ?_
        exact he I _ _ rfl _ d_ST_detail_57 h
      · rw [if_neg q4] at h
        refine fx_iconst (pc' := 53) hF (v := (1 : Int32)) d_ST_detail_52 rfl rfl ?_
        refine fx_goto hF (tgt := 57) d_ST_detail_53 rfl ?_
        exact he I _ _ rfl _ d_ST_detail_57 h
    · rw [if_neg q3] at h
      by_cases q5 : x1 = (2 : Int32)
      · rw [if_pos q5] at h
        refine fx_swIn hF (tgt := 58) d_ST_detail_1 (by rw [q5]; decide) (by rw [q5]; decide) (by rw [q5]; rfl) rfl ?_
        refine fx_aload_n (pc' := 59) hF d_ST_detail_58 rfl 0 rfl rfl ?_
        refine fx_geti (pc' := 62) hC hk0 (by decide) rfl iw_ST 4 (by decide) (by decide) rfl (hw _ wq_1_48) rfl d_ST_detail_59 rfl ?_
        exact he I _ _ rfl _ d_ST_detail_62 h
      · rw [if_neg q5] at h
        by_cases q6 : x1 = (3 : Int32)
        · rw [if_pos q6] at h
          refine fx_swIn hF (tgt := 63) d_ST_detail_1 (by rw [q6]; decide) (by rw [q6]; decide) (by rw [q6]; rfl) rfl ?_
          refine fx_aload_n (pc' := 64) hF d_ST_detail_63 rfl 0 rfl rfl ?_
          refine fx_geti (pc' := 67) hC hk0 (by decide) rfl iw_ST 5 (by decide) (by decide) rfl (hw _ wq_1_50) rfl d_ST_detail_64 rfl ?_
          exact he I _ _ rfl _ d_ST_detail_67 h
        · rw [if_neg q6] at h
          refine fx_swOut hF (tgt := 68) d_ST_detail_1 (by have z0 := lv_neT q1 (a := 0) rfl; have z1 := lv_neT q3 (a := 1) rfl; have z2 := lv_neT q5 (a := 2) rfl; have z3 := lv_neT q6 (a := 3) rfl; omega) rfl ?_
          refine fx_iconst (pc' := 69) hF (v := (-1 : Int32)) d_ST_detail_68 rfl rfl ?_
          exact he I _ _ rfl _ d_ST_detail_69 h
