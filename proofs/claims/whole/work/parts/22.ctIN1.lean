set_option maxHeartbeats 4000000 in
set_option maxRecDepth 100000 in
theorem ct_MS_init (l : Launch) (D : va_G) (aC : Nat → ClassId) (g : Nat → Nat) (b l0 : Nat) (L : List (Nat × Nat)) (I : Nat → Nat → Int32) (k0 : Nat) (Rr : List (Nat × Nat) × (Nat → Nat → Int32)) (hg : ∀ k, g k = b + k) (hl0 : L.length = l0) (hk0 : ((fw_k L) k0).1 = 1) (h : fnc_MS_init l0 L I k0 = some Rr) : fw_Mc l y_MS_init w_MS_init r_MS_init D aC g b L I [.ref (g k0)] Rr 0 0 := by
  refine fw_ofGc (cc := b_MS_init) (maxL := 1) (ws' := fw_ws) (by decide +kernel) hg hl0 (Nat.le_of_ble_eq_true rfl) rfl rfl ?_
  intro p e s m args below meth c A Q hC hN hA hsz hin he
  have hF := (hC []).1
  have hl : l0 ≤ L.length := Nat.le_of_eq hl0.symm
  have hw : ∀ w ∈ fw_ws, w.before args s = true := fun w hw => hF.2.2.2.2 w (List.mem_cons_of_mem _ hw)
  unfold fnc_MS_init at h
  change fw_G p l e r_MS_init s m args below meth c (L.length - l0) (fw_ss l0 L) Q 1 D aC A g L.length (fw_k L) I 0 [(0, .ref (g k0))] []
  refine fx_aload_n (pc' := 1) hF d_MS_init_0 rfl 0 rfl rfl ?_
  refine fx_objInit (pc' := 4) hF (hw _ wq_1_78) (hw _ wq_1_22) (hw _ wq_1_23) (Nat.le_of_ble_eq_true rfl) (Nat.le_of_ble_eq_true rfl) d_MS_init_1 rfl ?_
  refine fx_aload_n (pc' := 5) hF d_MS_init_4 rfl 0 rfl rfl ?_
  refine fx_iconst (pc' := 6) hF (v := (0 : Int32)) d_MS_init_5 rfl rfl ?_
  obtain ⟨I1, eI1, h⟩ := fw_let_some h
  refine fx_puti (pc' := 9) (hC L) hk0 (by decide) rfl iw_MS 0 (by decide) (by decide) rfl ty_MS tyok_MS nn_MS rfl eI1 (tyok_MS 0 (by decide)) rfl rfl (hw _ wq_1_79) rfl d_MS_init_6 rfl ?_
  refine fx_aload_n (pc' := 10) hF d_MS_init_9 rfl 0 rfl rfl ?_
  refine fx_iconst (pc' := 11) hF (v := (0 : Int32)) d_MS_init_10 rfl rfl ?_
  obtain ⟨I2, eI2, h⟩ := fw_let_some h
  refine fx_puti (pc' := 14) (hC L) hk0 (by decide) rfl iw_MS 1 (by decide) (by decide) rfl ty_MS tyok_MS nn_MS rfl eI2 (tyok_MS 1 (by decide)) rfl rfl (hw _ wq_1_83) rfl d_MS_init_11 rfl ?_
  refine fx_aload_n (pc' := 15) hF d_MS_init_14 rfl 0 rfl rfl ?_
  refine fx_iconst (pc' := 16) hF (v := (0 : Int32)) d_MS_init_15 rfl rfl ?_
  obtain ⟨I3, eI3, h⟩ := fw_let_some h
  refine fx_puti (pc' := 19) (hC L) hk0 (by decide) rfl iw_MS 2 (by decide) (by decide) rfl ty_MS tyok_MS nn_MS rfl eI3 (tyok_MS 2 (by decide)) rfl rfl (hw _ wq_1_86) rfl d_MS_init_16 rfl ?_
  refine fx_aload_n (pc' := 20) hF d_MS_init_19 rfl 0 rfl rfl ?_
  refine fx_iconst (pc' := 21) hF (v := (0 : Int32)) d_MS_init_20 rfl rfl ?_
  obtain ⟨I4, eI4, h⟩ := fw_let_some h
  refine fx_puti (pc' := 24) (hC L) hk0 (by decide) rfl iw_MS 3 (by decide) (by decide) rfl ty_MS tyok_MS nn_MS rfl eI4 (tyok_MS 3 (by decide)) rfl rfl (hw _ wq_1_90) rfl d_MS_init_21 rfl ?_
  refine fx_aload_n (pc' := 25) hF d_MS_init_24 rfl 0 rfl rfl ?_
  refine fx_iconst (pc' := 26) hF (v := (0 : Int32)) d_MS_init_25 rfl rfl ?_
  obtain ⟨I5, eI5, h⟩ := fw_let_some h
  refine fx_puti (pc' := 29) (hC L) hk0 (by decide) rfl iw_MS 4 (by decide) (by decide) rfl ty_MS tyok_MS nn_MS rfl eI5 (tyok_MS 4 (by decide)) rfl rfl (hw _ wq_1_94) rfl d_MS_init_26 rfl ?_
  refine fx_aload_n (pc' := 30) hF d_MS_init_29 rfl 0 rfl rfl ?_
  refine fx_iconst (pc' := 31) hF (v := (0 : Int32)) d_MS_init_30 rfl rfl ?_
  obtain ⟨I6, eI6, h⟩ := fw_let_some h
  refine fx_puti (pc' := 34) (hC L) hk0 (by decide) rfl iw_MS 5 (by decide) (by decide) rfl ty_MS tyok_MS nn_MS rfl eI6 (tyok_MS 5 (by decide)) rfl rfl (hw _ wq_1_97) rfl d_MS_init_31 rfl ?_
  refine fx_aload_n (pc' := 35) hF d_MS_init_34 rfl 0 rfl rfl ?_
  refine fx_iconst (pc' := 36) hF (v := (0 : Int32)) d_MS_init_35 rfl rfl ?_
  obtain ⟨I7, eI7, h⟩ := fw_let_some h
  refine fx_puti (pc' := 39) (hC L) hk0 (by decide) rfl iw_MS 6 (by decide) (by decide) rfl ty_MS tyok_MS nn_MS rfl eI7 (tyok_MS 6 (by decide)) rfl rfl (hw _ wq_1_100) rfl d_MS_init_36 rfl ?_
  obtain ⟨q8, h⟩ := fw_gd_some h
  exact he L I7 _ _ d_MS_init_39 (of_decide_eq_true q8).1 (of_decide_eq_true q8).2 h
set_option maxHeartbeats 4000000 in
set_option maxRecDepth 100000 in
theorem ct_CH_init (l : Launch) (D : va_G) (aC : Nat → ClassId) (g : Nat → Nat) (b l0 : Nat) (L : List (Nat × Nat)) (I : Nat → Nat → Int32) (k0 : Nat) (Rr : List (Nat × Nat) × (Nat → Nat → Int32)) (hg : ∀ k, g k = b + k) (hl0 : L.length = l0) (hk0 : ((fw_k L) k0).1 = 0) (h : fnc_CH_init l0 L I k0 = some Rr) : fw_Mc l y_CH_init w_CH_init r_CH_init D aC g b L I [.ref (g k0)] Rr 22 167 := by
  refine fw_ofGc (cc := b_CH_init) (maxL := 2) (ws' := fw_ws) (by decide +kernel) hg hl0 (Nat.le_of_ble_eq_true rfl) rfl rfl ?_
  intro p e s m args below meth c A Q hC hN hA hsz hin he
  have hF := (hC []).1
  have hl : l0 ≤ L.length := Nat.le_of_eq hl0.symm
  have hw : ∀ w ∈ fw_ws, w.before args s = true := fun w hw => hF.2.2.2.2 w (List.mem_cons_of_mem _ hw)
  unfold fnc_CH_init at h
  have B31 : ∀ (f : Nat) (L : List (Nat × Nat)) (I : Nat → Nat → Int32) (x1 : Int32) (hk0 : (fw_k L k0).1 = 0) (hl : l0 ≤ L.length), fnc_CH_init_31 l0 f L I k0 x1 = some Rr → fw_G p l e r_CH_init s m args below meth c (L.length - l0) (fw_ss l0 L) Q 2 D aC A g L.length (fw_k L) I 31 [(0, .ref (g k0)), (1, .int x1)] [] := by
    intro f
    induction f with
    | zero =>
      intro L I x1 hk0 hl h
      rw [fnc_CH_init_31] at h
      cases h
    | succ f ih =>
      intro L I x1 hk0 hl h
      rw [fnc_CH_init_31] at h
      refine fx_iload_n (pc' := 32) hF d_CH_init_31 rfl 1 rfl rfl ?_
      refine fx_bipush (pc' := 34) hF (v := (20 : Int32)) d_CH_init_32 rfl rfl ?_
      refine fx_icmp_ge hF (tgt := 56) (pc' := 37) d_CH_init_34 rfl rfl (fun q20 => ?_) (fun q20 => ?_)
      · rw [if_pos q20] at h
        obtain ⟨q21, h⟩ := fw_gd_some h
        exact he L I _ _ d_CH_init_56 (of_decide_eq_true q21).1 (of_decide_eq_true q21).2 h
      · rw [if_neg q20] at h
        refine fx_aload_n (pc' := 38) hF d_CH_init_37 rfl 0 rfl rfl ?_
        obtain ⟨a22, na22, ea22, ka22, h⟩ := fw_ld_some h
        refine fx_getr (pc' := 41) (hC L) hk0 (by decide) rfl iw_CH 0 (by decide) (by decide) rfl na22 ea22 (hw _ wq_1_118) rfl d_CH_init_38 rfl ?_
        refine fx_iload_n (pc' := 42) hF d_CH_init_41 rfl 1 rfl rfl ?_
        obtain ⟨a23, L24, ea23, eL24, ba23, ca23, sa23, h⟩ := fw_nw_some h
        obtain ⟨I25, eI25, h⟩ := fw_let_some h
        refine fx_new (pc' := 45) (hC L) hg hsz hA hk0 (by decide) hl ea23 eL24 eI25 ca23 sa23 (by decide) rfl rfl iw_MS ty_MS tyok_MS df_MS (hw _ wq_1_72) (hw _ wq_1_74) (hw _ wq_1_5) d_CH_init_42 rfl ?_
        have hk26 : (fw_k L24 k0).1 = 0 := fw_k_old eL24 hk0 (by decide)
        have hk27 : (fw_k L24 a22).1 = 24 := fw_k_old eL24 ka22 (by decide)
        have ka23 : (fw_k L24 a23).1 = 1 := fw_k_new ea23 eL24
        have hl28 : l0 ≤ L24.length := fw_hl eL24 hl
        refine fx_dup (pc' := 46) hF d_CH_init_45 rfl rfl ?_
        obtain ⟨L29, I30, c31, eL29, nL29, sL29, mL29, h⟩ := fw_bc_some h
        obtain ⟨xL29, eL29⟩ := eL29
        refine fx_ctorN (pc' := 49) (As := []) (st := [.ref (g a23), .int x1, .ref (g a22)]) (hC L24) hN hg hsz hA hk26 (by decide) hl28 eL29 nL29 sL29 mL29 (ct_MS_init l D aC g b L24.length L24 I25 a23 (L29, I30) hg rfl ka23 c31) ⟨va_cnB 0 hF.2.2.2.2 (fw_gN wq_1_77) rfl rfl rfl (hN.1 _ wn_1_75) (hw _ wq_1_5) ⟨by decide +kernel, by decide +kernel, by decide +kernel⟩ ⟨Nat.le_of_ble_eq_true rfl, Nat.le_of_ble_eq_true rfl⟩, rfl, hw _ wq_1_76⟩ rfl rfl (Nat.le_of_ble_eq_true rfl) d_CH_init_46 rfl ?_
        have hk32 : (fw_k L29 k0).1 = 0 := fw_k_old eL29 hk26 (by decide)
        have hk33 : (fw_k L29 a22).1 = 24 := fw_k_old eL29 hk27 (by decide)
        have hk34 : (fw_k L29 a23).1 = 1 := fw_k_old eL29 ka23 (by decide)
        have hl35 : l0 ≤ L29.length := fw_hl eL29 hl28
        obtain ⟨q36, h⟩ := fw_gd_some h
        obtain ⟨I37, eI37, h⟩ := fw_let_some h
        refine fx_aast24 (pc' := 50) (hC L29) hk33 q36 eI37 hk34 (fw_nn ba23) (fw_ne ba23) d_CH_init_49 rfl ?_
        refine fx_iinc (pc' := 53) hF (v := x1 + 1) (lv' := [(1, .int (x1 + 1)), (0, .ref (g k0))]) d_CH_init_50 1 rfl rfl (by decide) rfl rfl ?_
        refine fx_goto hF (tgt := 31) d_CH_init_53 rfl ?_
        refine fx_lv [1, 0] rfl ?_
        exact ih L29 I37 (x1 + 1) hk32 hl35 h
  change fw_G p l e r_CH_init s m args below meth c (L.length - l0) (fw_ss l0 L) Q 2 D aC A g L.length (fw_k L) I 0 [(0, .ref (g k0))] []
  refine fx_aload_n (pc' := 1) hF d_CH_init_0 rfl 0 rfl rfl ?_
  refine fx_objInit (pc' := 4) hF (hw _ wq_1_71) (hw _ wq_1_22) (hw _ wq_1_23) (Nat.le_of_ble_eq_true rfl) (Nat.le_of_ble_eq_true rfl) d_CH_init_1 rfl ?_
  refine fx_aload_n (pc' := 5) hF d_CH_init_4 rfl 0 rfl rfl ?_
  refine fx_bipush (pc' := 7) hF (v := (20 : Int32)) d_CH_init_5 rfl rfl ?_
  obtain ⟨a1, L2, ea1, eL2, ba1, ca1, sa1, h⟩ := fw_nw_some h
  obtain ⟨I3, eI3, h⟩ := fw_let_some h
  refine fx_anew (pc' := 10) (hC L) hg hsz hA hk0 (by decide) hl ea1 eL2 eI3 ca1 sa1 (by decide) (fw_RAo ((hC []).2.1.2 4 _ rfl).2) hN.2.2.1 (hw _ wq_1_72) (by decide) rfl (by decide) d_CH_init_7 rfl ?_
  have hk4 : (fw_k L2 k0).1 = 0 := fw_k_old eL2 hk0 (by decide)
  have ka1 : (fw_k L2 a1).1 = 24 := fw_k_new ea1 eL2
  have hl5 : l0 ≤ L2.length := fw_hl eL2 hl
  obtain ⟨I6, eI6, h⟩ := fw_let_some h
  refine fx_putrF (pc' := 13) (hC L2) hk4 (by decide) rfl iw_CH 0 (by decide) (by decide) rfl (fw_nn ba1) (fw_ne ba1) ty_CH tyok_CH nn_CH rfl hin rfl eI6 (tyok_CH 0 (by decide)) rfl rfl (hw _ wq_1_118) rfl d_CH_init_10 rfl ?_
  refine fx_aload_n (pc' := 14) hF d_CH_init_13 rfl 0 rfl rfl ?_
  obtain ⟨a7, L8, ea7, eL8, ba7, ca7, sa7, h⟩ := fw_nw_some h
  obtain ⟨I9, eI9, h⟩ := fw_let_some h
  refine fx_new (pc' := 17) (hC L2) hg hsz hA hk4 (by decide) hl5 ea7 eL8 eI9 ca7 sa7 (by decide) rfl rfl iw_MS ty_MS tyok_MS df_MS (hw _ wq_1_72) (hw _ wq_1_74) (hw _ wq_1_5) d_CH_init_14 rfl ?_
  have hk10 : (fw_k L8 k0).1 = 0 := fw_k_old eL8 hk4 (by decide)
  have ka7 : (fw_k L8 a7).1 = 1 := fw_k_new ea7 eL8
  have hl11 : l0 ≤ L8.length := fw_hl eL8 hl5
  refine fx_dup (pc' := 18) hF d_CH_init_17 rfl rfl ?_
  obtain ⟨L12, I13, c14, eL12, nL12, sL12, mL12, h⟩ := fw_bc_some h
  obtain ⟨xL12, eL12⟩ := eL12
  refine fx_ctorN (pc' := 21) (As := []) (st := [.ref (g a7), .ref (g k0)]) (hC L8) hN hg hsz hA hk10 (by decide) hl11 eL12 nL12 sL12 mL12 (ct_MS_init l D aC g b L8.length L8 I9 a7 (L12, I13) hg rfl ka7 c14) ⟨va_cnB 0 hF.2.2.2.2 (fw_gN wq_1_77) rfl rfl rfl (hN.1 _ wn_1_75) (hw _ wq_1_5) ⟨by decide +kernel, by decide +kernel, by decide +kernel⟩ ⟨Nat.le_of_ble_eq_true rfl, Nat.le_of_ble_eq_true rfl⟩, rfl, hw _ wq_1_76⟩ rfl rfl (Nat.le_of_ble_eq_true rfl) d_CH_init_18 rfl ?_
  have hk15 : (fw_k L12 k0).1 = 0 := fw_k_old eL12 hk10 (by decide)
  have hk16 : (fw_k L12 a7).1 = 1 := fw_k_old eL12 ka7 (by decide)
  have hl17 : l0 ≤ L12.length := fw_hl eL12 hl11
  obtain ⟨I18, eI18, h⟩ := fw_let_some h
  refine fx_putr (pc' := 24) (hC L12) hk15 (by decide) rfl iw_CH 1 (by decide) (by decide) rfl (fw_nn ba7) (fw_ne ba7) ty_CH tyok_CH nn_CH rfl eI18 (tyok_CH 1 (by decide)) rfl rfl (hw _ wq_1_120) rfl d_CH_init_21 rfl ?_
  refine fx_aload_n (pc' := 25) hF d_CH_init_24 rfl 0 rfl rfl ?_
  refine fx_iconst (pc' := 26) hF (v := (0 : Int32)) d_CH_init_25 rfl rfl ?_
  obtain ⟨I19, eI19, h⟩ := fw_let_some h
  refine fx_puti (pc' := 29) (hC L12) hk15 (by decide) rfl iw_CH 2 (by decide) (by decide) rfl ty_CH tyok_CH nn_CH rfl eI19 (tyok_CH 2 (by decide)) rfl rfl (hw _ wq_1_121) rfl d_CH_init_26 rfl ?_
  refine fx_iconst (pc' := 30) hF (v := (0 : Int32)) d_CH_init_29 rfl rfl ?_
  refine fx_istore_n (pc' := 31) hF (lv' := [(1, .int (0 : Int32)), (0, .ref (g k0))]) d_CH_init_30 rfl (by decide) rfl rfl ?_
  refine fx_lv [1, 0] rfl ?_
  exact B31 200 L12 I19 (0 : Int32) hk15 hl17 h
set_option maxHeartbeats 4000000 in
set_option maxRecDepth 100000 in
theorem ct_RC_init (l : Launch) (D : va_G) (aC : Nat → ClassId) (g : Nat → Nat) (b l0 : Nat) (L : List (Nat × Nat)) (I : Nat → Nat → Int32) (k0 : Nat) (x1 : Int32) (Rr : List (Nat × Nat) × (Nat → Nat → Int32)) (hg : ∀ k, g k = b + k) (hl0 : L.length = l0) (hk0 : ((fw_k L) k0).1 = 2) (h : fnc_RC_init l0 L I k0 x1 = some Rr) : fw_Mc l y_RC_init w_RC_init r_RC_init D aC g b L I [.ref (g k0), .int x1] Rr 0 0 := by
  refine fw_ofGc (cc := b_RC_init) (maxL := 2) (ws' := fw_ws) (by decide +kernel) hg hl0 (Nat.le_of_ble_eq_true rfl) rfl rfl ?_
  intro p e s m args below meth c A Q hC hN hA hsz hin he
  have hF := (hC []).1
  have hl : l0 ≤ L.length := Nat.le_of_eq hl0.symm
  have hw : ∀ w ∈ fw_ws, w.before args s = true := fun w hw => hF.2.2.2.2 w (List.mem_cons_of_mem _ hw)
  unfold fnc_RC_init at h
  change fw_G p l e r_RC_init s m args below meth c (L.length - l0) (fw_ss l0 L) Q 2 D aC A g L.length (fw_k L) I 0 [(0, .ref (g k0)), (1, .int x1)] []
  refine fx_aload_n (pc' := 1) hF d_RC_init_0 rfl 0 rfl rfl ?_
  refine fx_objInit (pc' := 4) hF (hw _ wq_1_163) (hw _ wq_1_22) (hw _ wq_1_23) (Nat.le_of_ble_eq_true rfl) (Nat.le_of_ble_eq_true rfl) d_RC_init_1 rfl ?_
  refine fx_aload_n (pc' := 5) hF d_RC_init_4 rfl 0 rfl rfl ?_
  refine fx_iconst (pc' := 6) hF (v := (0 : Int32)) d_RC_init_5 rfl rfl ?_
  obtain ⟨I1, eI1, h⟩ := fw_let_some h
  refine fx_puti (pc' := 9) (hC L) hk0 (by decide) rfl iw_RC 1 (by decide) (by decide) rfl ty_RC tyok_RC nn_RC rfl eI1 (tyok_RC 1 (by decide)) rfl rfl (hw _ wq_1_166) rfl d_RC_init_6 rfl ?_
  refine fx_aload_n (pc' := 10) hF d_RC_init_9 rfl 0 rfl rfl ?_
  refine fx_iconst (pc' := 11) hF (v := (0 : Int32)) d_RC_init_10 rfl rfl ?_
  obtain ⟨I2, eI2, h⟩ := fw_let_some h
  refine fx_puti (pc' := 14) (hC L) hk0 (by decide) rfl iw_RC 2 (by decide) (by decide) rfl ty_RC tyok_RC nn_RC rfl eI2 (tyok_RC 2 (by decide)) rfl rfl (hw _ wq_1_168) rfl d_RC_init_11 rfl ?_
  refine fx_aload_n (pc' := 15) hF d_RC_init_14 rfl 0 rfl rfl ?_
  refine fx_iconst (pc' := 16) hF (v := (0 : Int32)) d_RC_init_15 rfl rfl ?_
  obtain ⟨I3, eI3, h⟩ := fw_let_some h
  refine fx_puti (pc' := 19) (hC L) hk0 (by decide) rfl iw_RC 3 (by decide) (by decide) rfl ty_RC tyok_RC nn_RC rfl eI3 (tyok_RC 3 (by decide)) rfl rfl (hw _ wq_1_170) rfl d_RC_init_16 rfl ?_
  refine fx_aload_n (pc' := 20) hF d_RC_init_19 rfl 0 rfl rfl ?_
  refine fx_iconst (pc' := 21) hF (v := (0 : Int32)) d_RC_init_20 rfl rfl ?_
  obtain ⟨I4, eI4, h⟩ := fw_let_some h
  refine fx_puti (pc' := 24) (hC L) hk0 (by decide) rfl iw_RC 4 (by decide) (by decide) rfl ty_RC tyok_RC nn_RC rfl eI4 (tyok_RC 4 (by decide)) rfl rfl (hw _ wq_1_172) rfl d_RC_init_21 rfl ?_
  refine fx_aload_n (pc' := 25) hF d_RC_init_24 rfl 0 rfl rfl ?_
  refine fx_iconst (pc' := 26) hF (v := (-1 : Int32)) d_RC_init_25 rfl rfl ?_
  obtain ⟨I5, eI5, h⟩ := fw_let_some h
  refine fx_puti (pc' := 29) (hC L) hk0 (by decide) rfl iw_RC 5 (by decide) (by decide) rfl ty_RC tyok_RC nn_RC rfl eI5 (tyok_RC 5 (by decide)) rfl rfl (hw _ wq_1_174) rfl d_RC_init_26 rfl ?_
  refine fx_aload_n (pc' := 30) hF d_RC_init_29 rfl 0 rfl rfl ?_
  refine fx_iconst (pc' := 31) hF (v := (0 : Int32)) d_RC_init_30 rfl rfl ?_
  obtain ⟨I6, eI6, h⟩ := fw_let_some h
  refine fx_puti (pc' := 34) (hC L) hk0 (by decide) rfl iw_RC 6 (by decide) (by decide) rfl ty_RC tyok_RC nn_RC rfl eI6 (tyok_RC 6 (by decide)) rfl rfl (hw _ wq_1_176) rfl d_RC_init_31 rfl ?_
  refine fx_aload_n (pc' := 35) hF d_RC_init_34 rfl 0 rfl rfl ?_
  refine fx_iload_n (pc' := 36) hF d_RC_init_35 rfl 1 rfl rfl ?_
  obtain ⟨I7, eI7, h⟩ := fw_let_some h
  refine fx_putiF (pc' := 39) (hC L) hk0 (by decide) rfl iw_RC 0 (by decide) (by decide) rfl ty_RC tyok_RC nn_RC rfl hin rfl eI7 (tyok_RC 0 (by decide)) rfl rfl (hw _ wq_1_164) rfl d_RC_init_36 rfl ?_
  obtain ⟨q8, h⟩ := fw_gd_some h
  exact he L I7 _ _ d_RC_init_39 (of_decide_eq_true q8).1 (of_decide_eq_true q8).2 h
set_option maxHeartbeats 4000000 in
set_option maxRecDepth 100000 in
theorem ct_ST_init (l : Launch) (D : va_G) (aC : Nat → ClassId) (g : Nat → Nat) (b l0 : Nat) (L : List (Nat × Nat)) (I : Nat → Nat → Int32) (k0 : Nat) (Rr : List (Nat × Nat) × (Nat → Nat → Int32)) (hg : ∀ k, g k = b + k) (hl0 : L.length = l0) (hk0 : ((fw_k L) k0).1 = 3) (h : fnc_ST_init l0 L I k0 = some Rr) : fw_Mc l y_ST_init w_ST_init r_ST_init D aC g b L I [.ref (g k0)] Rr 2 40 := by
  refine fw_ofGc (cc := b_ST_init) (maxL := 1) (ws' := fw_ws) (by decide +kernel) hg hl0 (Nat.le_of_ble_eq_true rfl) rfl rfl ?_
  intro p e s m args below meth c A Q hC hN hA hsz hin he
  have hF := (hC []).1
  have hl : l0 ≤ L.length := Nat.le_of_eq hl0.symm
  have hw : ∀ w ∈ fw_ws, w.before args s = true := fun w hw => hF.2.2.2.2 w (List.mem_cons_of_mem _ hw)
  unfold fnc_ST_init at h
  change fw_G p l e r_ST_init s m args below meth c (L.length - l0) (fw_ss l0 L) Q 1 D aC A g L.length (fw_k L) I 0 [(0, .ref (g k0))] []
  refine fx_aload_n (pc' := 1) hF d_ST_init_0 rfl 0 rfl rfl ?_
  refine fx_objInit (pc' := 4) hF (hw _ wq_1_39) (hw _ wq_1_22) (hw _ wq_1_23) (Nat.le_of_ble_eq_true rfl) (Nat.le_of_ble_eq_true rfl) d_ST_init_1 rfl ?_
  refine fx_aload_n (pc' := 5) hF d_ST_init_4 rfl 0 rfl rfl ?_
  refine fx_bipush (pc' := 7) hF (v := (20 : Int32)) d_ST_init_5 rfl rfl ?_
  obtain ⟨a1, L2, ea1, eL2, ba1, ca1, sa1, h⟩ := fw_nw_some h
  obtain ⟨I3, eI3, h⟩ := fw_let_some h
  refine fx_newa (pc' := 9) (hC L) hg hsz hA hk0 (by decide) hl ea1 eL2 eI3 ca1 sa1 (by decide) rfl ((hC []).2.1.2 1 _ rfl).2 fw_cell21 (by decide) (hw _ wq_1_64) (by decide) rfl (by decide) d_ST_init_7 rfl ?_
  have hk4 : (fw_k L2 k0).1 = 3 := fw_k_old eL2 hk0 (by decide)
  have ka1 : (fw_k L2 a1).1 = 21 := fw_k_new ea1 eL2
  have hl5 : l0 ≤ L2.length := fw_hl eL2 hl
  obtain ⟨I6, eI6, h⟩ := fw_let_some h
  refine fx_putrF (pc' := 12) (hC L2) hk4 (by decide) rfl iw_ST 0 (by decide) (by decide) rfl (fw_nn ba1) (fw_ne ba1) ty_ST tyok_ST nn_ST rfl hin rfl eI6 (tyok_ST 0 (by decide)) rfl rfl (hw _ wq_1_40) rfl d_ST_init_9 rfl ?_
  refine fx_aload_n (pc' := 13) hF d_ST_init_12 rfl 0 rfl rfl ?_
  refine fx_bipush (pc' := 15) hF (v := (20 : Int32)) d_ST_init_13 rfl rfl ?_
  obtain ⟨a7, L8, ea7, eL8, ba7, ca7, sa7, h⟩ := fw_nw_some h
  obtain ⟨I9, eI9, h⟩ := fw_let_some h
  refine fx_newa (pc' := 17) (hC L2) hg hsz hA hk4 (by decide) hl5 ea7 eL8 eI9 ca7 sa7 (by decide) rfl ((hC []).2.1.2 0 _ rfl).2 fw_cell20 (by decide) (hw _ wq_1_65) (by decide) rfl (by decide) d_ST_init_15 rfl ?_
  have hk10 : (fw_k L8 k0).1 = 3 := fw_k_old eL8 hk4 (by decide)
  have ka7 : (fw_k L8 a7).1 = 20 := fw_k_new ea7 eL8
  have hl11 : l0 ≤ L8.length := fw_hl eL8 hl5
  obtain ⟨I12, eI12, h⟩ := fw_let_some h
  refine fx_putrF (pc' := 20) (hC L8) hk10 (by decide) rfl iw_ST 1 (by decide) (by decide) rfl (fw_nn ba7) (fw_ne ba7) ty_ST tyok_ST nn_ST rfl hin rfl eI12 (tyok_ST 1 (by decide)) rfl rfl (hw _ wq_1_42) rfl d_ST_init_17 rfl ?_
  refine fx_aload_n (pc' := 21) hF d_ST_init_20 rfl 0 rfl rfl ?_
  refine fx_iconst (pc' := 22) hF (v := (1 : Int32)) d_ST_init_21 rfl rfl ?_
  obtain ⟨I13, eI13, h⟩ := fw_let_some h
  refine fx_puti (pc' := 25) (hC L8) hk10 (by decide) rfl iw_ST 2 (by decide) (by decide) rfl ty_ST tyok_ST nn_ST rfl eI13 (tyok_ST 2 (by decide)) rfl rfl (hw _ wq_1_44) rfl d_ST_init_22 rfl ?_
  refine fx_aload_n (pc' := 26) hF d_ST_init_25 rfl 0 rfl rfl ?_
  refine fx_iconst (pc' := 27) hF (v := (0 : Int32)) d_ST_init_26 rfl rfl ?_
  obtain ⟨I14, eI14, h⟩ := fw_let_some h
  refine fx_puti (pc' := 30) (hC L8) hk10 (by decide) rfl iw_ST 3 (by decide) (by decide) rfl ty_ST tyok_ST nn_ST rfl eI14 (tyok_ST 3 (by decide)) rfl rfl (hw _ wq_1_46) rfl d_ST_init_27 rfl ?_
  refine fx_aload_n (pc' := 31) hF d_ST_init_30 rfl 0 rfl rfl ?_
  refine fx_iconst (pc' := 32) hF (v := (-1 : Int32)) d_ST_init_31 rfl rfl ?_
  obtain ⟨I15, eI15, h⟩ := fw_let_some h
  refine fx_puti (pc' := 35) (hC L8) hk10 (by decide) rfl iw_ST 4 (by decide) (by decide) rfl ty_ST tyok_ST nn_ST rfl eI15 (tyok_ST 4 (by decide)) rfl rfl (hw _ wq_1_48) rfl d_ST_init_32 rfl ?_
  refine fx_aload_n (pc' := 36) hF d_ST_init_35 rfl 0 rfl rfl ?_
  refine fx_iconst (pc' := 37) hF (v := (0 : Int32)) d_ST_init_36 rfl rfl ?_
  obtain ⟨I16, eI16, h⟩ := fw_let_some h
  refine fx_puti (pc' := 40) (hC L8) hk10 (by decide) rfl iw_ST 5 (by decide) (by decide) rfl ty_ST tyok_ST nn_ST rfl eI16 (tyok_ST 5 (by decide)) rfl rfl (hw _ wq_1_50) rfl d_ST_init_37 rfl ?_
  obtain ⟨q17, h⟩ := fw_gd_some h
  exact he L8 I16 _ _ d_ST_init_40 (of_decide_eq_true q17).1 (of_decide_eq_true q17).2 h
set_option maxHeartbeats 4000000 in
set_option maxRecDepth 100000 in
theorem ct_WR_init (l : Launch) (D : va_G) (aC : Nat → ClassId) (g : Nat → Nat) (b l0 : Nat) (L : List (Nat × Nat)) (I : Nat → Nat → Int32) (k0 : Nat) (Rr : List (Nat × Nat) × (Nat → Nat → Int32)) (hg : ∀ k, g k = b + k) (hl0 : L.length = l0) (hk0 : ((fw_k L) k0).1 = 4) (h : fnc_WR_init l0 L I k0 = some Rr) : fw_Mc l y_WR_init w_WR_init r_WR_init D aC g b L I [.ref (g k0)] Rr 2 40 := by
  refine fw_ofGc (cc := b_WR_init) (maxL := 1) (ws' := fw_ws) (by decide +kernel) hg hl0 (Nat.le_of_ble_eq_true rfl) rfl rfl ?_
  intro p e s m args below meth c A Q hC hN hA hsz hin he
  have hF := (hC []).1
  have hl : l0 ≤ L.length := Nat.le_of_eq hl0.symm
  have hw : ∀ w ∈ fw_ws, w.before args s = true := fun w hw => hF.2.2.2.2 w (List.mem_cons_of_mem _ hw)
  unfold fnc_WR_init at h
  change fw_G p l e r_WR_init s m args below meth c (L.length - l0) (fw_ss l0 L) Q 1 D aC A g L.length (fw_k L) I 0 [(0, .ref (g k0))] []
  refine fx_aload_n (pc' := 1) hF d_WR_init_0 rfl 0 rfl rfl ?_
  refine fx_objInit (pc' := 4) hF (hw _ wq_1_135) (hw _ wq_1_22) (hw _ wq_1_23) (Nat.le_of_ble_eq_true rfl) (Nat.le_of_ble_eq_true rfl) d_WR_init_1 rfl ?_
  refine fx_aload_n (pc' := 5) hF d_WR_init_4 rfl 0 rfl rfl ?_
  refine fx_bipush (pc' := 7) hF (v := (20 : Int32)) d_WR_init_5 rfl rfl ?_
  obtain ⟨a1, L2, ea1, eL2, ba1, ca1, sa1, h⟩ := fw_nw_some h
  obtain ⟨I3, eI3, h⟩ := fw_let_some h
  refine fx_newa (pc' := 9) (hC L) hg hsz hA hk0 (by decide) hl ea1 eL2 eI3 ca1 sa1 (by decide) rfl ((hC []).2.1.2 0 _ rfl).2 fw_cell20 (by decide) (hw _ wq_1_65) (by decide) rfl (by decide) d_WR_init_7 rfl ?_
  have hk4 : (fw_k L2 k0).1 = 4 := fw_k_old eL2 hk0 (by decide)
  have ka1 : (fw_k L2 a1).1 = 20 := fw_k_new ea1 eL2
  have hl5 : l0 ≤ L2.length := fw_hl eL2 hl
  obtain ⟨I6, eI6, h⟩ := fw_let_some h
  refine fx_putrF (pc' := 12) (hC L2) hk4 (by decide) rfl iw_WR 0 (by decide) (by decide) rfl (fw_nn ba1) (fw_ne ba1) ty_WR tyok_WR nn_WR rfl hin rfl eI6 (tyok_WR 0 (by decide)) rfl rfl (hw _ wq_1_136) rfl d_WR_init_9 rfl ?_
  refine fx_aload_n (pc' := 13) hF d_WR_init_12 rfl 0 rfl rfl ?_
  refine fx_bipush (pc' := 15) hF (v := (20 : Int32)) d_WR_init_13 rfl rfl ?_
  obtain ⟨a7, L8, ea7, eL8, ba7, ca7, sa7, h⟩ := fw_nw_some h
  obtain ⟨I9, eI9, h⟩ := fw_let_some h
  refine fx_newa (pc' := 17) (hC L2) hg hsz hA hk4 (by decide) hl5 ea7 eL8 eI9 ca7 sa7 (by decide) rfl ((hC []).2.1.2 0 _ rfl).2 fw_cell20 (by decide) (hw _ wq_1_65) (by decide) rfl (by decide) d_WR_init_15 rfl ?_
  have hk10 : (fw_k L8 k0).1 = 4 := fw_k_old eL8 hk4 (by decide)
  have ka7 : (fw_k L8 a7).1 = 20 := fw_k_new ea7 eL8
  have hl11 : l0 ≤ L8.length := fw_hl eL8 hl5
  obtain ⟨I12, eI12, h⟩ := fw_let_some h
  refine fx_putrF (pc' := 20) (hC L8) hk10 (by decide) rfl iw_WR 1 (by decide) (by decide) rfl (fw_nn ba7) (fw_ne ba7) ty_WR tyok_WR nn_WR rfl hin rfl eI12 (tyok_WR 1 (by decide)) rfl rfl (hw _ wq_1_138) rfl d_WR_init_17 rfl ?_
  refine fx_aload_n (pc' := 21) hF d_WR_init_20 rfl 0 rfl rfl ?_
  refine fx_iconst (pc' := 22) hF (v := (0 : Int32)) d_WR_init_21 rfl rfl ?_
  obtain ⟨I13, eI13, h⟩ := fw_let_some h
  refine fx_puti (pc' := 25) (hC L8) hk10 (by decide) rfl iw_WR 2 (by decide) (by decide) rfl ty_WR tyok_WR nn_WR rfl eI13 (tyok_WR 2 (by decide)) rfl rfl (hw _ wq_1_140) rfl d_WR_init_22 rfl ?_
  refine fx_aload_n (pc' := 26) hF d_WR_init_25 rfl 0 rfl rfl ?_
  refine fx_iconst (pc' := 27) hF (v := (0 : Int32)) d_WR_init_26 rfl rfl ?_
  obtain ⟨I14, eI14, h⟩ := fw_let_some h
  refine fx_puti (pc' := 30) (hC L8) hk10 (by decide) rfl iw_WR 3 (by decide) (by decide) rfl ty_WR tyok_WR nn_WR rfl eI14 (tyok_WR 3 (by decide)) rfl rfl (hw _ wq_1_142) rfl d_WR_init_27 rfl ?_
  refine fx_aload_n (pc' := 31) hF d_WR_init_30 rfl 0 rfl rfl ?_
  refine fx_iconst (pc' := 32) hF (v := (-1 : Int32)) d_WR_init_31 rfl rfl ?_
  obtain ⟨I15, eI15, h⟩ := fw_let_some h
  refine fx_puti (pc' := 35) (hC L8) hk10 (by decide) rfl iw_WR 4 (by decide) (by decide) rfl ty_WR tyok_WR nn_WR rfl eI15 (tyok_WR 4 (by decide)) rfl rfl (hw _ wq_1_144) rfl d_WR_init_32 rfl ?_
  obtain ⟨q16, h⟩ := fw_gd_some h
  exact he L8 I15 _ _ d_WR_init_35 (of_decide_eq_true q16).1 (of_decide_eq_true q16).2 h
set_option maxHeartbeats 4000000 in
set_option maxRecDepth 100000 in
theorem ct_FL_init (l : Launch) (D : va_G) (aC : Nat → ClassId) (g : Nat → Nat) (b l0 : Nat) (L : List (Nat × Nat)) (I : Nat → Nat → Int32) (k0 : Nat) (x1 : Int32) (x2 : Int32) (x3 : Int32) (Rr : List (Nat × Nat) × (Nat → Nat → Int32)) (hg : ∀ k, g k = b + k) (hl0 : L.length = l0) (hk0 : ((fw_k L) k0).1 = 5) (h : fnc_FL_init l0 L I k0 x1 x2 x3 = some Rr) : fw_Mc l y_FL_init w_FL_init r_FL_init D aC g b L I [.ref (g k0), .int x1, .int x2, .int x3] Rr 45 466 := by
  refine fw_ofGc (cc := b_FL_init) (maxL := 5) (ws' := fw_ws) (by decide +kernel) hg hl0 (Nat.le_of_ble_eq_true rfl) rfl rfl ?_
  intro p e s m args below meth c A Q hC hN hA hsz hin he
  have hF := (hC []).1
  have hl : l0 ≤ L.length := Nat.le_of_eq hl0.symm
  have hw : ∀ w ∈ fw_ws, w.before args s = true := fun w hw => hF.2.2.2.2 w (List.mem_cons_of_mem _ hw)
  unfold fnc_FL_init at h
  have B116 : ∀ (f : Nat) (L : List (Nat × Nat)) (I : Nat → Nat → Int32) (x4 : Int32) (hk0 : (fw_k L k0).1 = 5) (hl : l0 ≤ L.length), fnc_FL_init_116 l0 f L I k0 x4 = some Rr → fw_G p l e r_FL_init s m args below meth c (L.length - l0) (fw_ss l0 L) Q 5 D aC A g L.length (fw_k L) I 116 [(0, .ref (g k0)), (4, .int x4)] [] := by
    intro f
    induction f with
    | zero =>
      intro L I x4 hk0 hl h
      rw [fnc_FL_init_116] at h
      cases h
    | succ f ih =>
      intro L I x4 hk0 hl h
      rw [fnc_FL_init_116] at h
      refine fx_iload (pc' := 118) hF d_FL_init_116 1 rfl rfl ?_
      refine fx_iconst (pc' := 119) hF (v := (2 : Int32)) d_FL_init_118 rfl rfl ?_
      refine fx_icmp_ge hF (tgt := 146) (pc' := 122) d_FL_init_119 rfl rfl (fun q54 => ?_) (fun q54 => ?_)
      · rw [if_pos q54] at h
        refine fx_aload_n (pc' := 147) hF d_FL_init_146 rfl 0 rfl rfl ?_
        refine fx_iconst (pc' := 148) hF (v := (0 : Int32)) d_FL_init_147 rfl rfl ?_
        obtain ⟨I55, eI55, h⟩ := fw_let_some h
        refine fx_puti (pc' := 151) (hC L) hk0 (by decide) rfl iw_FL 7 (by decide) (by decide) rfl ty_FL tyok_FL nn_FL rfl eI55 (tyok_FL 7 (by decide)) rfl rfl (hw _ wq_1_200) rfl d_FL_init_148 rfl ?_
        refine fx_aload_n (pc' := 152) hF d_FL_init_151 rfl 0 rfl rfl ?_
        refine fx_iconst (pc' := 153) hF (v := (0 : Int32)) d_FL_init_152 rfl rfl ?_
        obtain ⟨I56, eI56, h⟩ := fw_let_some h
        refine fx_puti (pc' := 156) (hC L) hk0 (by decide) rfl iw_FL 8 (by decide) (by decide) rfl ty_FL tyok_FL nn_FL rfl eI56 (tyok_FL 8 (by decide)) rfl rfl (hw _ wq_1_201) rfl d_FL_init_153 rfl ?_
        refine fx_aload_n (pc' := 157) hF d_FL_init_156 rfl 0 rfl rfl ?_
        refine fx_iconst (pc' := 158) hF (v := (-1 : Int32)) d_FL_init_157 rfl rfl ?_
        obtain ⟨I57, eI57, h⟩ := fw_let_some h
        refine fx_puti (pc' := 161) (hC L) hk0 (by decide) rfl iw_FL 9 (by decide) (by decide) rfl ty_FL tyok_FL nn_FL rfl eI57 (tyok_FL 9 (by decide)) rfl rfl (hw _ wq_1_202) rfl d_FL_init_158 rfl ?_
        obtain ⟨q58, h⟩ := fw_gd_some h
        exact he L I57 _ _ d_FL_init_161 (of_decide_eq_true q58).1 (of_decide_eq_true q58).2 h
      · rw [if_neg q54] at h
        refine fx_aload_n (pc' := 123) hF d_FL_init_122 rfl 0 rfl rfl ?_
        obtain ⟨a59, na59, ea59, ka59, h⟩ := fw_ld_some h
        refine fx_getr (pc' := 126) (hC L) hk0 (by decide) rfl iw_FL 6 (by decide) (by decide) rfl na59 ea59 (hw _ wq_1_199) rfl d_FL_init_123 rfl ?_
        refine fx_iload (pc' := 128) hF d_FL_init_126 1 rfl rfl ?_
        obtain ⟨a60, L61, ea60, eL61, ba60, ca60, sa60, h⟩ := fw_nw_some h
        obtain ⟨I62, eI62, h⟩ := fw_let_some h
        refine fx_new (pc' := 131) (hC L) hg hsz hA hk0 (by decide) hl ea60 eL61 eI62 ca60 sa60 (by decide) rfl rfl iw_RC ty_RC tyok_RC df_RC (hw _ wq_1_157) (hw _ wq_1_159) (hw _ wq_1_7) d_FL_init_128 rfl ?_
        have hk63 : (fw_k L61 k0).1 = 5 := fw_k_old eL61 hk0 (by decide)
        have hk64 : (fw_k L61 a59).1 = 25 := fw_k_old eL61 ka59 (by decide)
        have ka60 : (fw_k L61 a60).1 = 2 := fw_k_new ea60 eL61
        have hl65 : l0 ≤ L61.length := fw_hl eL61 hl
        refine fx_dup (pc' := 132) hF d_FL_init_131 rfl rfl ?_
        refine fx_iload (pc' := 134) hF d_FL_init_132 1 rfl rfl ?_
        refine fx_iconst (pc' := 135) hF (v := (1 : Int32)) d_FL_init_134 rfl rfl ?_
        refine fx_iadd (pc' := 136) hF d_FL_init_135 rfl ?_
        obtain ⟨L66, I67, c68, eL66, nL66, sL66, mL66, h⟩ := fw_bc_some h
        obtain ⟨xL66, eL66⟩ := eL66
        refine fx_ctorN (pc' := 139) (As := [.int (x4 + (1 : Int32))]) (st := [.ref (g a60), .int x4, .ref (g a59)]) (hC L61) hN hg hsz hA hk63 (by decide) hl65 eL66 nL66 sL66 mL66 (ct_RC_init l D aC g b L61.length L61 I62 a60 (x4 + (1 : Int32)) (L66, I67) hg rfl ka60 c68) ⟨va_cnB 1 hF.2.2.2.2 (fw_gN wq_1_162) rfl rfl rfl (hN.1 _ wn_1_160) (hw _ wq_1_7) ⟨by decide +kernel, by decide +kernel, by decide +kernel⟩ ⟨Nat.le_of_ble_eq_true rfl, Nat.le_of_ble_eq_true rfl⟩, rfl, hw _ wq_1_161⟩ rfl rfl (Nat.le_of_ble_eq_true rfl) d_FL_init_136 rfl ?_
        have hk69 : (fw_k L66 k0).1 = 5 := fw_k_old eL66 hk63 (by decide)
        have hk70 : (fw_k L66 a59).1 = 25 := fw_k_old eL66 hk64 (by decide)
        have hk71 : (fw_k L66 a60).1 = 2 := fw_k_old eL66 ka60 (by decide)
        have hl72 : l0 ≤ L66.length := fw_hl eL66 hl65
        obtain ⟨q73, h⟩ := fw_gd_some h
        obtain ⟨I74, eI74, h⟩ := fw_let_some h
        refine fx_aast25 (pc' := 140) (hC L66) hk70 q73 eI74 hk71 (fw_nn ba60) (fw_ne ba60) d_FL_init_139 rfl ?_
        refine fx_iinc (pc' := 143) hF (v := x4 + 1) (lv' := [(4, .int (x4 + 1)), (0, .ref (g k0))]) d_FL_init_140 1 rfl rfl (by decide) rfl rfl ?_
        refine fx_goto hF (tgt := 116) d_FL_init_143 rfl ?_
        refine fx_lv [1, 0] rfl ?_
        exact ih L66 I74 (x4 + 1) hk69 hl72 h
  have B54 : ∀ (f : Nat) (L : List (Nat × Nat)) (I : Nat → Nat → Int32) (x4 : Int32) (hk0 : (fw_k L k0).1 = 5) (hl : l0 ≤ L.length), fnc_FL_init_54 l0 f L I k0 x4 = some Rr → fw_G p l e r_FL_init s m args below meth c (L.length - l0) (fw_ss l0 L) Q 5 D aC A g L.length (fw_k L) I 54 [(0, .ref (g k0)), (4, .int x4)] [] := by
    intro f
    induction f with
    | zero =>
      intro L I x4 hk0 hl h
      rw [fnc_FL_init_54] at h
      cases h
    | succ f ih =>
      intro L I x4 hk0 hl h
      rw [fnc_FL_init_54] at h
      refine fx_iload (pc' := 56) hF d_FL_init_54 1 rfl rfl ?_
      refine fx_aload_n (pc' := 57) hF d_FL_init_56 rfl 0 rfl rfl ?_
      refine fx_geti (pc' := 60) (hC L) hk0 (by decide) rfl iw_FL 0 (by decide) (by decide) rfl (hw _ wq_1_193) rfl d_FL_init_57 rfl ?_
      refine fx_icmp_ge hF (tgt := 83) (pc' := 63) d_FL_init_60 rfl rfl (fun q23 => ?_) (fun q23 => ?_)
      · rw [if_pos q23] at h
        refine fx_aload_n (pc' := 84) hF d_FL_init_83 rfl 0 rfl rfl ?_
        obtain ⟨a24, L25, ea24, eL25, ba24, ca24, sa24, h⟩ := fw_nw_some h
        obtain ⟨I26, eI26, h⟩ := fw_let_some h
        refine fx_new (pc' := 87) (hC L) hg hsz hA hk0 (by decide) hl ea24 eL25 eI26 ca24 sa24 (by decide) rfl rfl iw_CH ty_CH tyok_CH df_CH (hw _ wq_1_66) (hw _ wq_1_67) (hw _ wq_1_4) d_FL_init_84 rfl ?_
        have hk27 : (fw_k L25 k0).1 = 5 := fw_k_old eL25 hk0 (by decide)
        have ka24 : (fw_k L25 a24).1 = 0 := fw_k_new ea24 eL25
        have hl28 : l0 ≤ L25.length := fw_hl eL25 hl
        refine fx_dup (pc' := 88) hF d_FL_init_87 rfl rfl ?_
        obtain ⟨L29, I30, c31, eL29, nL29, sL29, mL29, h⟩ := fw_bc_some h
        obtain ⟨xL29, eL29⟩ := eL29
        refine fx_ctorN (pc' := 91) (As := []) (st := [.ref (g a24), .ref (g k0)]) (hC L25) hN hg hsz hA hk27 (by decide) hl28 eL29 nL29 sL29 mL29 (ct_CH_init l D aC g b L25.length L25 I26 a24 (L29, I30) hg rfl ka24 c31) ⟨va_cnB 0 hF.2.2.2.2 (fw_gN wq_1_70) rfl rfl rfl (hN.1 _ wn_1_68) (hw _ wq_1_4) ⟨by decide +kernel, by decide +kernel, by decide +kernel⟩ ⟨Nat.le_of_ble_eq_true rfl, Nat.le_of_ble_eq_true rfl⟩, rfl, hw _ wq_1_69⟩ rfl rfl (Nat.le_of_ble_eq_true rfl) d_FL_init_88 rfl ?_
        have hk32 : (fw_k L29 k0).1 = 5 := fw_k_old eL29 hk27 (by decide)
        have hk33 : (fw_k L29 a24).1 = 0 := fw_k_old eL29 ka24 (by decide)
        have hl34 : l0 ≤ L29.length := fw_hl eL29 hl28
        obtain ⟨I35, eI35, h⟩ := fw_let_some h
        refine fx_putrF (pc' := 94) (hC L29) hk32 (by decide) rfl iw_FL 4 (by decide) (by decide) rfl (fw_nn ba24) (fw_ne ba24) ty_FL tyok_FL nn_FL rfl hin rfl eI35 (tyok_FL 4 (by decide)) rfl rfl (hw _ wq_1_197) rfl d_FL_init_91 rfl ?_
        refine fx_aload_n (pc' := 95) hF d_FL_init_94 rfl 0 rfl rfl ?_
        obtain ⟨a36, L37, ea36, eL37, ba36, ca36, sa36, h⟩ := fw_nw_some h
        obtain ⟨I38, eI38, h⟩ := fw_let_some h
        refine fx_new (pc' := 98) (hC L29) hg hsz hA hk32 (by decide) hl34 ea36 eL37 eI38 ca36 sa36 (by decide) rfl rfl iw_WR ty_WR tyok_WR df_WR (hw _ wq_1_130) (hw _ wq_1_131) (hw _ wq_1_6) d_FL_init_95 rfl ?_
        have hk39 : (fw_k L37 k0).1 = 5 := fw_k_old eL37 hk32 (by decide)
        have ka36 : (fw_k L37 a36).1 = 4 := fw_k_new ea36 eL37
        have hl40 : l0 ≤ L37.length := fw_hl eL37 hl34
        refine fx_dup (pc' := 99) hF d_FL_init_98 rfl rfl ?_
        obtain ⟨L41, I42, c43, eL41, nL41, sL41, mL41, h⟩ := fw_bc_some h
        obtain ⟨xL41, eL41⟩ := eL41
        refine fx_ctorN (pc' := 102) (As := []) (st := [.ref (g a36), .ref (g k0)]) (hC L37) hN hg hsz hA hk39 (by decide) hl40 eL41 nL41 sL41 mL41 (ct_WR_init l D aC g b L37.length L37 I38 a36 (L41, I42) hg rfl ka36 c43) ⟨va_cnB 0 hF.2.2.2.2 (fw_gN wq_1_134) rfl rfl rfl (hN.1 _ wn_1_132) (hw _ wq_1_6) ⟨by decide +kernel, by decide +kernel, by decide +kernel⟩ ⟨Nat.le_of_ble_eq_true rfl, Nat.le_of_ble_eq_true rfl⟩, rfl, hw _ wq_1_133⟩ rfl rfl (Nat.le_of_ble_eq_true rfl) d_FL_init_99 rfl ?_
        have hk44 : (fw_k L41 k0).1 = 5 := fw_k_old eL41 hk39 (by decide)
        have hk45 : (fw_k L41 a36).1 = 4 := fw_k_old eL41 ka36 (by decide)
        have hl46 : l0 ≤ L41.length := fw_hl eL41 hl40
        obtain ⟨I47, eI47, h⟩ := fw_let_some h
        refine fx_putrF (pc' := 105) (hC L41) hk44 (by decide) rfl iw_FL 5 (by decide) (by decide) rfl (fw_nn ba36) (fw_ne ba36) ty_FL tyok_FL nn_FL rfl hin rfl eI47 (tyok_FL 5 (by decide)) rfl rfl (hw _ wq_1_198) rfl d_FL_init_102 rfl ?_
        refine fx_aload_n (pc' := 106) hF d_FL_init_105 rfl 0 rfl rfl ?_
        refine fx_iconst (pc' := 107) hF (v := (2 : Int32)) d_FL_init_106 rfl rfl ?_
        obtain ⟨a48, L49, ea48, eL49, ba48, ca48, sa48, h⟩ := fw_nw_some h
        obtain ⟨I50, eI50, h⟩ := fw_let_some h
        refine fx_anew (pc' := 110) (hC L41) hg hsz hA hk44 (by decide) hl46 ea48 eL49 eI50 ca48 sa48 (by decide) (fw_RAo ((hC []).2.1.2 5 _ rfl).2) hN.2.2.2 (hw _ wq_1_157) (by decide) rfl (by decide) d_FL_init_107 rfl ?_
        have hk51 : (fw_k L49 k0).1 = 5 := fw_k_old eL49 hk44 (by decide)
        have ka48 : (fw_k L49 a48).1 = 25 := fw_k_new ea48 eL49
        have hl52 : l0 ≤ L49.length := fw_hl eL49 hl46
        obtain ⟨I53, eI53, h⟩ := fw_let_some h
        refine fx_putrF (pc' := 113) (hC L49) hk51 (by decide) rfl iw_FL 6 (by decide) (by decide) rfl (fw_nn ba48) (fw_ne ba48) ty_FL tyok_FL nn_FL rfl hin rfl eI53 (tyok_FL 6 (by decide)) rfl rfl (hw _ wq_1_199) rfl d_FL_init_110 rfl ?_
        refine fx_iconst (pc' := 114) hF (v := (0 : Int32)) d_FL_init_113 rfl rfl ?_
        refine fx_istore (pc' := 116) hF (lv' := [(4, .int (0 : Int32)), (0, .ref (g k0))]) d_FL_init_114 (by decide) rfl rfl ?_
        refine fx_lv [1, 0] rfl ?_
        exact B116 200 L49 I53 (0 : Int32) hk51 hl52 h
      · rw [if_neg q23] at h
        refine fx_aload_n (pc' := 64) hF d_FL_init_63 rfl 0 rfl rfl ?_
        obtain ⟨a75, na75, ea75, ka75, h⟩ := fw_ld_some h
        refine fx_getr (pc' := 67) (hC L) hk0 (by decide) rfl iw_FL 3 (by decide) (by decide) rfl na75 ea75 (hw _ wq_1_196) rfl d_FL_init_64 rfl ?_
        refine fx_iload (pc' := 69) hF d_FL_init_67 1 rfl rfl ?_
        obtain ⟨a76, L77, ea76, eL77, ba76, ca76, sa76, h⟩ := fw_nw_some h
        obtain ⟨I78, eI78, h⟩ := fw_let_some h
        refine fx_new (pc' := 72) (hC L) hg hsz hA hk0 (by decide) hl ea76 eL77 eI78 ca76 sa76 (by decide) rfl rfl iw_ST ty_ST tyok_ST df_ST (hw _ wq_1_33) (hw _ wq_1_35) (hw _ wq_1_3) d_FL_init_69 rfl ?_
        have hk79 : (fw_k L77 k0).1 = 5 := fw_k_old eL77 hk0 (by decide)
        have hk80 : (fw_k L77 a75).1 = 23 := fw_k_old eL77 ka75 (by decide)
        have ka76 : (fw_k L77 a76).1 = 3 := fw_k_new ea76 eL77
        have hl81 : l0 ≤ L77.length := fw_hl eL77 hl
        refine fx_dup (pc' := 73) hF d_FL_init_72 rfl rfl ?_
        obtain ⟨L82, I83, c84, eL82, nL82, sL82, mL82, h⟩ := fw_bc_some h
        obtain ⟨xL82, eL82⟩ := eL82
        refine fx_ctorN (pc' := 76) (As := []) (st := [.ref (g a76), .int x4, .ref (g a75)]) (hC L77) hN hg hsz hA hk79 (by decide) hl81 eL82 nL82 sL82 mL82 (ct_ST_init l D aC g b L77.length L77 I78 a76 (L82, I83) hg rfl ka76 c84) ⟨va_cnB 0 hF.2.2.2.2 (fw_gN wq_1_38) rfl rfl rfl (hN.1 _ wn_1_36) (hw _ wq_1_3) ⟨by decide +kernel, by decide +kernel, by decide +kernel⟩ ⟨Nat.le_of_ble_eq_true rfl, Nat.le_of_ble_eq_true rfl⟩, rfl, hw _ wq_1_37⟩ rfl rfl (Nat.le_of_ble_eq_true rfl) d_FL_init_73 rfl ?_
        have hk85 : (fw_k L82 k0).1 = 5 := fw_k_old eL82 hk79 (by decide)
        have hk86 : (fw_k L82 a75).1 = 23 := fw_k_old eL82 hk80 (by decide)
        have hk87 : (fw_k L82 a76).1 = 3 := fw_k_old eL82 ka76 (by decide)
        have hl88 : l0 ≤ L82.length := fw_hl eL82 hl81
        obtain ⟨q89, h⟩ := fw_gd_some h
        obtain ⟨I90, eI90, h⟩ := fw_let_some h
        refine fx_aast23 (pc' := 77) (hC L82) hk86 q89 eI90 hk87 (fw_nn ba76) (fw_ne ba76) d_FL_init_76 rfl ?_
        refine fx_iinc (pc' := 80) hF (v := x4 + 1) (lv' := [(4, .int (x4 + 1)), (0, .ref (g k0))]) d_FL_init_77 1 rfl rfl (by decide) rfl rfl ?_
        refine fx_goto hF (tgt := 54) d_FL_init_80 rfl ?_
        refine fx_lv [1, 0] rfl ?_
        exact ih L82 I90 (x4 + 1) hk85 hl88 h
  change fw_G p l e r_FL_init s m args below meth c (L.length - l0) (fw_ss l0 L) Q 5 D aC A g L.length (fw_k L) I 0 [(0, .ref (g k0)), (1, .int x1), (2, .int x2), (3, .int x3)] []
  refine fx_aload_n (pc' := 1) hF d_FL_init_0 rfl 0 rfl rfl ?_
  refine fx_objInit (pc' := 4) hF (hw _ wq_1_21) (hw _ wq_1_22) (hw _ wq_1_23) (Nat.le_of_ble_eq_true rfl) (Nat.le_of_ble_eq_true rfl) d_FL_init_1 rfl ?_
  refine fx_aload_n (pc' := 5) hF d_FL_init_4 rfl 0 rfl rfl ?_
  refine fx_iload_n (pc' := 6) hF d_FL_init_5 rfl 1 rfl rfl ?_
  refine fx_iconst (pc' := 7) hF (v := (3 : Int32)) d_FL_init_6 rfl rfl ?_
  refine fx_iconst (pc' := 8) hF (v := (5 : Int32)) d_FL_init_7 rfl rfl ?_
  obtain ⟨q1, h⟩ := fw_gd_some h
  obtain ⟨r4, I2, c3, h⟩ := fw_bd_some h
  refine fx_callSi (pc' := 11) (As := [.int x1, .int (3 : Int32), .int (5 : Int32)]) (st := [.ref (g k0)]) (hC L) hN hA (ct_FL_nearest l D aC g L.length (fw_k L) I x1 (3 : Int32) (5 : Int32) (r4, I2) fw_k_lt c3) (va_cwS 3 hF.2.2.2.2 (fw_gS wq_1_24 wq_1_25 wq_1_1 wq_1_26) rfl rfl rfl ⟨by decide +kernel, by decide +kernel, by decide +kernel⟩ ⟨Nat.le_of_ble_eq_true rfl, Nat.le_of_ble_eq_true rfl⟩) (of_decide_eq_true q1) rfl rfl (Nat.le_of_ble_eq_true rfl) d_FL_init_8 rfl ?_
  obtain ⟨I5, eI5, h⟩ := fw_let_some h
  refine fx_putiF (pc' := 14) (hC L) hk0 (by decide) rfl iw_FL 0 (by decide) (by decide) rfl ty_FL tyok_FL nn_FL rfl hin rfl eI5 (tyok_FL 0 (by decide)) rfl rfl (hw _ wq_1_193) rfl d_FL_init_11 rfl ?_
  refine fx_aload_n (pc' := 15) hF d_FL_init_14 rfl 0 rfl rfl ?_
  refine fx_iload_n (pc' := 16) hF d_FL_init_15 rfl 2 rfl rfl ?_
  refine fx_iconst (pc' := 17) hF (v := (2 : Int32)) d_FL_init_16 rfl rfl ?_
  refine fx_aload_n (pc' := 18) hF d_FL_init_17 rfl 0 rfl rfl ?_
  refine fx_geti (pc' := 21) (hC L) hk0 (by decide) rfl iw_FL 0 (by decide) (by decide) rfl (hw _ wq_1_193) rfl d_FL_init_18 rfl ?_
  obtain ⟨q6, h⟩ := fw_gd_some h
  obtain ⟨r9, I7, c8, h⟩ := fw_bd_some h
  refine fx_callSi (pc' := 24) (As := [.int x2, .int (2 : Int32), .int (I5 k0 0)]) (st := [.ref (g k0)]) (hC L) hN hA (ct_FL_nearest l D aC g L.length (fw_k L) I5 x2 (2 : Int32) (I5 k0 0) (r9, I7) fw_k_lt c8) (va_cwS 3 hF.2.2.2.2 (fw_gS wq_1_24 wq_1_25 wq_1_1 wq_1_26) rfl rfl rfl ⟨by decide +kernel, by decide +kernel, by decide +kernel⟩ ⟨Nat.le_of_ble_eq_true rfl, Nat.le_of_ble_eq_true rfl⟩) (of_decide_eq_true q6) rfl rfl (Nat.le_of_ble_eq_true rfl) d_FL_init_21 rfl ?_
  obtain ⟨I10, eI10, h⟩ := fw_let_some h
  refine fx_putiF (pc' := 27) (hC L) hk0 (by decide) rfl iw_FL 1 (by decide) (by decide) rfl ty_FL tyok_FL nn_FL rfl hin rfl eI10 (tyok_FL 1 (by decide)) rfl rfl (hw _ wq_1_194) rfl d_FL_init_24 rfl ?_
  refine fx_aload_n (pc' := 28) hF d_FL_init_27 rfl 0 rfl rfl ?_
  refine fx_iload_n (pc' := 29) hF d_FL_init_28 rfl 3 rfl rfl ?_
  refine fx_iconst (pc' := 30) hF (v := (1 : Int32)) d_FL_init_29 rfl rfl ?_
  refine fx_aload_n (pc' := 31) hF d_FL_init_30 rfl 0 rfl rfl ?_
  refine fx_geti (pc' := 34) (hC L) hk0 (by decide) rfl iw_FL 1 (by decide) (by decide) rfl (hw _ wq_1_194) rfl d_FL_init_31 rfl ?_
  obtain ⟨q11, h⟩ := fw_gd_some h
  obtain ⟨r14, I12, c13, h⟩ := fw_bd_some h
  refine fx_callSi (pc' := 37) (As := [.int x3, .int (1 : Int32), .int (I10 k0 1)]) (st := [.ref (g k0)]) (hC L) hN hA (ct_FL_nearest l D aC g L.length (fw_k L) I10 x3 (1 : Int32) (I10 k0 1) (r14, I12) fw_k_lt c13) (va_cwS 3 hF.2.2.2.2 (fw_gS wq_1_24 wq_1_25 wq_1_1 wq_1_26) rfl rfl rfl ⟨by decide +kernel, by decide +kernel, by decide +kernel⟩ ⟨Nat.le_of_ble_eq_true rfl, Nat.le_of_ble_eq_true rfl⟩) (of_decide_eq_true q11) rfl rfl (Nat.le_of_ble_eq_true rfl) d_FL_init_34 rfl ?_
  obtain ⟨I15, eI15, h⟩ := fw_let_some h
  refine fx_putiF (pc' := 40) (hC L) hk0 (by decide) rfl iw_FL 2 (by decide) (by decide) rfl ty_FL tyok_FL nn_FL rfl hin rfl eI15 (tyok_FL 2 (by decide)) rfl rfl (hw _ wq_1_195) rfl d_FL_init_37 rfl ?_
  refine fx_aload_n (pc' := 41) hF d_FL_init_40 rfl 0 rfl rfl ?_
  refine fx_aload_n (pc' := 42) hF d_FL_init_41 rfl 0 rfl rfl ?_
  refine fx_geti (pc' := 45) (hC L) hk0 (by decide) rfl iw_FL 0 (by decide) (by decide) rfl (hw _ wq_1_193) rfl d_FL_init_42 rfl ?_
  obtain ⟨q19, h⟩ := fw_gd_some h
  obtain ⟨a16, L17, ea16, eL17, ba16, ca16, sa16, h⟩ := fw_nw_some h
  obtain ⟨I18, eI18, h⟩ := fw_let_some h
  refine fx_anew (pc' := 48) (hC L) hg hsz hA hk0 (by decide) hl ea16 eL17 eI18 ca16 sa16 (by decide) (fw_RAo ((hC []).2.1.2 3 _ rfl).2) hN.2.1 (hw _ wq_1_33) (of_decide_eq_true q19).1 rfl (of_decide_eq_true q19).2 d_FL_init_45 rfl ?_
  have hk20 : (fw_k L17 k0).1 = 5 := fw_k_old eL17 hk0 (by decide)
  have ka16 : (fw_k L17 a16).1 = 23 := fw_k_new ea16 eL17
  have hl21 : l0 ≤ L17.length := fw_hl eL17 hl
  obtain ⟨I22, eI22, h⟩ := fw_let_some h
  refine fx_putrF (pc' := 51) (hC L17) hk20 (by decide) rfl iw_FL 3 (by decide) (by decide) rfl (fw_nn ba16) (fw_ne ba16) ty_FL tyok_FL nn_FL rfl hin rfl eI22 (tyok_FL 3 (by decide)) rfl rfl (hw _ wq_1_196) rfl d_FL_init_48 rfl ?_
  refine fx_iconst (pc' := 52) hF (v := (0 : Int32)) d_FL_init_51 rfl rfl ?_
  refine fx_istore (pc' := 54) hF (lv' := [(4, .int (0 : Int32)), (0, .ref (g k0)), (1, .int x1), (2, .int x2), (3, .int x3)]) d_FL_init_52 (by decide) rfl rfl ?_
  refine fx_lv [1, 0] rfl ?_
  exact B54 200 L17 I22 (0 : Int32) hk20 hl21 h
set_option maxHeartbeats 4000000 in
set_option maxRecDepth 100000 in
theorem ct_MD_init (l : Launch) (D : va_G) (aC : Nat → ClassId) (g : Nat → Nat) (b l0 : Nat) (L : List (Nat × Nat)) (I : Nat → Nat → Int32) (k0 : Nat) (x1 : Int32) (x2 : Int32) (x3 : Int32) (Rr : List (Nat × Nat) × (Nat → Nat → Int32)) (hg : ∀ k, g k = b + k) (hl0 : L.length = l0) (hk0 : ((fw_k L) k0).1 = 6) (h : fnc_MD_init l0 L I k0 x1 x2 x3 = some Rr) : fw_Mc l y_MD_init w_MD_init r_MD_init D aC g b L I [.ref (g k0), .int x1, .int x2, .int x3] Rr 14 505 := by
  refine fw_ofGc (cc := b_MD_init) (maxL := 5) (ws' := fw_ws) (by decide +kernel) hg hl0 (Nat.le_of_ble_eq_true rfl) rfl rfl ?_
  intro p e s m args below meth c A Q hC hN hA hsz hin he
  have hF := (hC []).1
  have hl : l0 ≤ L.length := Nat.le_of_eq hl0.symm
  have hw : ∀ w ∈ fw_ws, w.before args s = true := fun w hw => hF.2.2.2.2 w (List.mem_cons_of_mem _ hw)
  unfold fnc_MD_init at h
  have B203 : ∀ (f : Nat) (L : List (Nat × Nat)) (I : Nat → Nat → Int32) (x4 : Int32) (hk0 : (fw_k L k0).1 = 6) (hl : l0 ≤ L.length), fnc_MD_init_203 l0 f L I k0 x4 = some Rr → fw_G p l e r_MD_init s m args below meth c (L.length - l0) (fw_ss l0 L) Q 5 D aC A g L.length (fw_k L) I 203 [(0, .ref (g k0)), (4, .int x4)] [] := by
    intro f
    induction f with
    | zero =>
      intro L I x4 hk0 hl h
      rw [fnc_MD_init_203] at h
      cases h
    | succ f ih =>
      intro L I x4 hk0 hl h
      rw [fnc_MD_init_203] at h
      refine fx_iload (pc' := 205) hF d_MD_init_203 1 rfl rfl ?_
      refine fx_iconst (pc' := 206) hF (v := (5 : Int32)) d_MD_init_205 rfl rfl ?_
      refine fx_icmp_ge hF (tgt := 223) (pc' := 209) d_MD_init_206 rfl rfl (fun q96 => ?_) (fun q96 => ?_)
      · rw [if_pos q96] at h
        refine fx_aload_n (pc' := 224) hF d_MD_init_223 rfl 0 rfl rfl ?_
        obtain ⟨a97, na97, ea97, ka97, h⟩ := fw_ld_some h
        refine fx_getr (pc' := 227) (hC L) hk0 (by decide) rfl iw_MD 22 (by decide) (by decide) rfl na97 ea97 (hw _ wq_3_138) rfl d_MD_init_224 rfl ?_
        refine fx_iconst (pc' := 228) hF (v := (1 : Int32)) d_MD_init_227 rfl rfl ?_
        refine fx_iconst (pc' := 229) hF (v := (-1 : Int32)) d_MD_init_228 rfl rfl ?_
        obtain ⟨q98, h⟩ := fw_gd_some h
        obtain ⟨I99, eI99, h⟩ := fw_let_some h
        refine fx_iast (pc' := 230) (hC L) ka97 q98 eI99 d_MD_init_229 rfl ?_
        refine fx_aload_n (pc' := 231) hF d_MD_init_230 rfl 0 rfl rfl ?_
        obtain ⟨a100, na100, ea100, ka100, h⟩ := fw_ld_some h
        refine fx_getr (pc' := 234) (hC L) hk0 (by decide) rfl iw_MD 22 (by decide) (by decide) rfl na100 ea100 (hw _ wq_3_138) rfl d_MD_init_231 rfl ?_
        refine fx_iconst (pc' := 235) hF (v := (2 : Int32)) d_MD_init_234 rfl rfl ?_
        refine fx_iconst (pc' := 236) hF (v := (-1 : Int32)) d_MD_init_235 rfl rfl ?_
        obtain ⟨q101, h⟩ := fw_gd_some h
        obtain ⟨I102, eI102, h⟩ := fw_let_some h
        refine fx_iast (pc' := 237) (hC L) ka100 q101 eI102 d_MD_init_236 rfl ?_
        obtain ⟨q103, h⟩ := fw_gd_some h
        exact he L I102 _ _ d_MD_init_237 (of_decide_eq_true q103).1 (of_decide_eq_true q103).2 h
      · rw [if_neg q96] at h
        refine fx_aload_n (pc' := 210) hF d_MD_init_209 rfl 0 rfl rfl ?_
        obtain ⟨a104, na104, ea104, ka104, h⟩ := fw_ld_some h
        refine fx_getr (pc' := 213) (hC L) hk0 (by decide) rfl iw_MD 6 (by decide) (by decide) rfl na104 ea104 (hw _ wq_3_122) rfl d_MD_init_210 rfl ?_
        refine fx_iload (pc' := 215) hF d_MD_init_213 1 rfl rfl ?_
        refine fx_iconst (pc' := 216) hF (v := (-1 : Int32)) d_MD_init_215 rfl rfl ?_
        obtain ⟨q105, h⟩ := fw_gd_some h
        obtain ⟨I106, eI106, h⟩ := fw_let_some h
        refine fx_iast (pc' := 217) (hC L) ka104 q105 eI106 d_MD_init_216 rfl ?_
        refine fx_iinc (pc' := 220) hF (v := x4 + 1) (lv' := [(4, .int (x4 + 1)), (0, .ref (g k0))]) d_MD_init_217 1 rfl rfl (by decide) rfl rfl ?_
        refine fx_goto hF (tgt := 203) d_MD_init_220 rfl ?_
        refine fx_lv [1, 0] rfl ?_
        exact ih L I106 (x4 + 1) hk0 hl h
  have B197 : ∀ (L : List (Nat × Nat)) (I : Nat → Nat → Int32) (s1 : Int32) (hk0 : (fw_k L k0).1 = 6) (hl : l0 ≤ L.length), fnc_MD_init_197 l0 L I k0 s1 = some Rr → fw_G p l e r_MD_init s m args below meth c (L.length - l0) (fw_ss l0 L) Q 5 D aC A g L.length (fw_k L) I 197 [(0, .ref (g k0))] [.int s1, .ref (g k0)] := by
    intro L I s1 hk0 hl h
    unfold fnc_MD_init_197 at h
    obtain ⟨I95, eI95, h⟩ := fw_let_some h
    refine fx_puti (pc' := 200) (hC L) hk0 (by decide) rfl iw_MD 3 (by decide) (by decide) rfl ty_MD tyok_MD nn_MD rfl eI95 (tyok_MD 3 (by decide)) rfl rfl (hw _ wq_3_119) rfl d_MD_init_197 rfl ?_
    refine fx_iconst (pc' := 201) hF (v := (0 : Int32)) d_MD_init_200 rfl rfl ?_
    refine fx_istore (pc' := 203) hF (lv' := [(4, .int (0 : Int32)), (0, .ref (g k0))]) d_MD_init_201 (by decide) rfl rfl ?_
    refine fx_lv [1, 0] rfl ?_
    exact B203 200 L I95 (0 : Int32) hk0 hl h
  have B168 : ∀ (L : List (Nat × Nat)) (I : Nat → Nat → Int32) (x3 : Int32) (s1 : Int32) (hk0 : (fw_k L k0).1 = 6) (hl : l0 ≤ L.length), fnc_MD_init_168 l0 L I k0 x3 s1 = some Rr → fw_G p l e r_MD_init s m args below meth c (L.length - l0) (fw_ss l0 L) Q 5 D aC A g L.length (fw_k L) I 168 [(0, .ref (g k0)), (3, .int x3)] [.int s1, .ref (g k0)] := by
    intro L I x3 s1 hk0 hl h
    unfold fnc_MD_init_168 at h
    obtain ⟨I92, eI92, h⟩ := fw_let_some h
    refine fx_puti (pc' := 171) (hC L) hk0 (by decide) rfl iw_MD 2 (by decide) (by decide) rfl ty_MD tyok_MD nn_MD rfl eI92 (tyok_MD 2 (by decide)) rfl rfl (hw _ wq_3_118) rfl d_MD_init_168 rfl ?_
    refine fx_aload_n (pc' := 172) hF d_MD_init_171 rfl 0 rfl rfl ?_
    refine fx_iload_n (pc' := 173) hF d_MD_init_172 rfl 1 rfl rfl ?_
    refine fx_iconst (pc' := 174) hF (v := (1 : Int32)) d_MD_init_173 rfl rfl ?_
    refine fx_icmp_ge hF (tgt := 181) (pc' := 177) d_MD_init_174 rfl rfl (fun q93 => ?_) (fun q93 => ?_)
    · rw [if_pos q93] at h
      refine fx_iload_n (pc' := 182) hF d_MD_init_181 rfl 1 rfl rfl ?_
      refine fx_aload_n (pc' := 183) hF d_MD_init_182 rfl 0 rfl rfl ?_
      refine fx_geti (pc' := 186) (hC L) hk0 (by decide) rfl iw_MD 2 (by decide) (by decide) rfl (hw _ wq_3_118) rfl d_MD_init_183 rfl ?_
      refine fx_icmp_le hF (tgt := 196) (pc' := 189) d_MD_init_186 rfl rfl (fun q94 => ?_) (fun q94 => ?_)
      · rw [if_pos q94] at h
        refine fx_iload_n (pc' := 197) hF d_MD_init_196 rfl 1 rfl rfl ?_
        refine fx_lv [0] rfl ?_
        exact B197 L I92 x3 hk0 hl h
      · rw [if_neg q94] at h
        refine fx_aload_n (pc' := 190) hF d_MD_init_189 rfl 0 rfl rfl ?_
        refine fx_geti (pc' := 193) (hC L) hk0 (by decide) rfl iw_MD 2 (by decide) (by decide) rfl (hw _ wq_3_118) rfl d_MD_init_190 rfl ?_
        refine fx_goto hF (tgt := 197) d_MD_init_193 rfl ?_
        refine fx_lv [0] rfl ?_
        exact B197 L I92 (I92 k0 2) hk0 hl h
    · rw [if_neg q93] at h
      refine fx_iconst (pc' := 178) hF (v := (1 : Int32)) d_MD_init_177 rfl rfl ?_
      refine fx_goto hF (tgt := 197) d_MD_init_178 rfl ?_
      refine fx_lv [0] rfl ?_
      exact B197 L I92 (1 : Int32) hk0 hl h
  have B139 : ∀ (L : List (Nat × Nat)) (I : Nat → Nat → Int32) (x2 : Int32) (x3 : Int32) (s1 : Int32) (hk0 : (fw_k L k0).1 = 6) (hl : l0 ≤ L.length), fnc_MD_init_139 l0 L I k0 x2 x3 s1 = some Rr → fw_G p l e r_MD_init s m args below meth c (L.length - l0) (fw_ss l0 L) Q 5 D aC A g L.length (fw_k L) I 139 [(0, .ref (g k0)), (2, .int x2), (3, .int x3)] [.int s1, .ref (g k0)] := by
    intro L I x2 x3 s1 hk0 hl h
    unfold fnc_MD_init_139 at h
    obtain ⟨I89, eI89, h⟩ := fw_let_some h
    refine fx_puti (pc' := 142) (hC L) hk0 (by decide) rfl iw_MD 1 (by decide) (by decide) rfl ty_MD tyok_MD nn_MD rfl eI89 (tyok_MD 1 (by decide)) rfl rfl (hw _ wq_3_117) rfl d_MD_init_139 rfl ?_
    refine fx_aload_n (pc' := 143) hF d_MD_init_142 rfl 0 rfl rfl ?_
    refine fx_iload_n (pc' := 144) hF d_MD_init_143 rfl 1 rfl rfl ?_
    refine fx_iconst (pc' := 145) hF (v := (2 : Int32)) d_MD_init_144 rfl rfl ?_
    refine fx_icmp_ge hF (tgt := 152) (pc' := 148) d_MD_init_145 rfl rfl (fun q90 => ?_) (fun q90 => ?_)
    · rw [if_pos q90] at h
      refine fx_iload_n (pc' := 153) hF d_MD_init_152 rfl 1 rfl rfl ?_
      refine fx_aload_n (pc' := 154) hF d_MD_init_153 rfl 0 rfl rfl ?_
      refine fx_geti (pc' := 157) (hC L) hk0 (by decide) rfl iw_MD 1 (by decide) (by decide) rfl (hw _ wq_3_117) rfl d_MD_init_154 rfl ?_
      refine fx_icmp_le hF (tgt := 167) (pc' := 160) d_MD_init_157 rfl rfl (fun q91 => ?_) (fun q91 => ?_)
      · rw [if_pos q91] at h
        refine fx_iload_n (pc' := 168) hF d_MD_init_167 rfl 1 rfl rfl ?_
        refine fx_lv [0, 2] rfl ?_
        exact B168 L I89 x3 x2 hk0 hl h
      · rw [if_neg q91] at h
        refine fx_aload_n (pc' := 161) hF d_MD_init_160 rfl 0 rfl rfl ?_
        refine fx_geti (pc' := 164) (hC L) hk0 (by decide) rfl iw_MD 1 (by decide) (by decide) rfl (hw _ wq_3_117) rfl d_MD_init_161 rfl ?_
        refine fx_goto hF (tgt := 168) d_MD_init_164 rfl ?_
        refine fx_lv [0, 2] rfl ?_
        exact B168 L I89 x3 (I89 k0 1) hk0 hl h
    · rw [if_neg q90] at h
      refine fx_iconst (pc' := 149) hF (v := (2 : Int32)) d_MD_init_148 rfl rfl ?_
      refine fx_goto hF (tgt := 168) d_MD_init_149 rfl ?_
      refine fx_lv [0, 2] rfl ?_
      exact B168 L I89 x3 (2 : Int32) hk0 hl h
  change fw_G p l e r_MD_init s m args below meth c (L.length - l0) (fw_ss l0 L) Q 5 D aC A g L.length (fw_k L) I 0 [(0, .ref (g k0)), (1, .int x1), (2, .int x2), (3, .int x3)] []
  refine fx_aload_n (pc' := 1) hF d_MD_init_0 rfl 0 rfl rfl ?_
  refine fx_objInit (pc' := 4) hF (hw _ wq_3_115) (hw _ wq_1_22) (hw _ wq_1_23) (Nat.le_of_ble_eq_true rfl) (Nat.le_of_ble_eq_true rfl) d_MD_init_1 rfl ?_
  refine fx_aload_n (pc' := 5) hF d_MD_init_4 rfl 0 rfl rfl ?_
  refine fx_iconst (pc' := 6) hF (v := (5 : Int32)) d_MD_init_5 rfl rfl ?_
  obtain ⟨a1, L2, ea1, eL2, ba1, ca1, sa1, h⟩ := fw_nw_some h
  obtain ⟨I3, eI3, h⟩ := fw_let_some h
  refine fx_newa (pc' := 8) (hC L) hg hsz hA hk0 (by decide) hl ea1 eL2 eI3 ca1 sa1 (by decide) rfl ((hC []).2.1.2 1 _ rfl).2 fw_cell21 (by decide) (hw _ wq_1_64) (by decide) rfl (by decide) d_MD_init_6 rfl ?_
  have hk4 : (fw_k L2 k0).1 = 6 := fw_k_old eL2 hk0 (by decide)
  have ka1 : (fw_k L2 a1).1 = 21 := fw_k_new ea1 eL2
  have hl5 : l0 ≤ L2.length := fw_hl eL2 hl
  obtain ⟨I6, eI6, h⟩ := fw_let_some h
  refine fx_putr (pc' := 11) (hC L2) hk4 (by decide) rfl iw_MD 4 (by decide) (by decide) rfl (fw_nn ba1) (fw_ne ba1) ty_MD tyok_MD nn_MD rfl eI6 (tyok_MD 4 (by decide)) rfl rfl (hw _ wq_3_120) rfl d_MD_init_8 rfl ?_
  refine fx_aload_n (pc' := 12) hF d_MD_init_11 rfl 0 rfl rfl ?_
  refine fx_iconst (pc' := 13) hF (v := (5 : Int32)) d_MD_init_12 rfl rfl ?_
  obtain ⟨a7, L8, ea7, eL8, ba7, ca7, sa7, h⟩ := fw_nw_some h
  obtain ⟨I9, eI9, h⟩ := fw_let_some h
  refine fx_newa (pc' := 15) (hC L2) hg hsz hA hk4 (by decide) hl5 ea7 eL8 eI9 ca7 sa7 (by decide) rfl ((hC []).2.1.2 1 _ rfl).2 fw_cell21 (by decide) (hw _ wq_1_64) (by decide) rfl (by decide) d_MD_init_13 rfl ?_
  have hk10 : (fw_k L8 k0).1 = 6 := fw_k_old eL8 hk4 (by decide)
  have ka7 : (fw_k L8 a7).1 = 21 := fw_k_new ea7 eL8
  have hl11 : l0 ≤ L8.length := fw_hl eL8 hl5
  obtain ⟨I12, eI12, h⟩ := fw_let_some h
  refine fx_putr (pc' := 18) (hC L8) hk10 (by decide) rfl iw_MD 5 (by decide) (by decide) rfl (fw_nn ba7) (fw_ne ba7) ty_MD tyok_MD nn_MD rfl eI12 (tyok_MD 5 (by decide)) rfl rfl (hw _ wq_3_121) rfl d_MD_init_15 rfl ?_
  refine fx_aload_n (pc' := 19) hF d_MD_init_18 rfl 0 rfl rfl ?_
  refine fx_iconst (pc' := 20) hF (v := (5 : Int32)) d_MD_init_19 rfl rfl ?_
  obtain ⟨a13, L14, ea13, eL14, ba13, ca13, sa13, h⟩ := fw_nw_some h
  obtain ⟨I15, eI15, h⟩ := fw_let_some h
  refine fx_newa (pc' := 22) (hC L8) hg hsz hA hk10 (by decide) hl11 ea13 eL14 eI15 ca13 sa13 (by decide) rfl ((hC []).2.1.2 0 _ rfl).2 fw_cell20 (by decide) (hw _ wq_1_65) (by decide) rfl (by decide) d_MD_init_20 rfl ?_
  have hk16 : (fw_k L14 k0).1 = 6 := fw_k_old eL14 hk10 (by decide)
  have ka13 : (fw_k L14 a13).1 = 20 := fw_k_new ea13 eL14
  have hl17 : l0 ≤ L14.length := fw_hl eL14 hl11
  obtain ⟨I18, eI18, h⟩ := fw_let_some h
  refine fx_putr (pc' := 25) (hC L14) hk16 (by decide) rfl iw_MD 6 (by decide) (by decide) rfl (fw_nn ba13) (fw_ne ba13) ty_MD tyok_MD nn_MD rfl eI18 (tyok_MD 6 (by decide)) rfl rfl (hw _ wq_3_122) rfl d_MD_init_22 rfl ?_
  refine fx_aload_n (pc' := 26) hF d_MD_init_25 rfl 0 rfl rfl ?_
  refine fx_bipush (pc' := 28) hF (v := (100 : Int32)) d_MD_init_26 rfl rfl ?_
  obtain ⟨a19, L20, ea19, eL20, ba19, ca19, sa19, h⟩ := fw_nw_some h
  obtain ⟨I21, eI21, h⟩ := fw_let_some h
  refine fx_newa (pc' := 30) (hC L14) hg hsz hA hk16 (by decide) hl17 ea19 eL20 eI21 ca19 sa19 (by decide) rfl ((hC []).2.1.2 1 _ rfl).2 fw_cell21 (by decide) (hw _ wq_1_64) (by decide) rfl (by decide) d_MD_init_28 rfl ?_
  have hk22 : (fw_k L20 k0).1 = 6 := fw_k_old eL20 hk16 (by decide)
  have ka19 : (fw_k L20 a19).1 = 21 := fw_k_new ea19 eL20
  have hl23 : l0 ≤ L20.length := fw_hl eL20 hl17
  obtain ⟨I24, eI24, h⟩ := fw_let_some h
  refine fx_putr (pc' := 33) (hC L20) hk22 (by decide) rfl iw_MD 7 (by decide) (by decide) rfl (fw_nn ba19) (fw_ne ba19) ty_MD tyok_MD nn_MD rfl eI24 (tyok_MD 7 (by decide)) rfl rfl (hw _ wq_3_123) rfl d_MD_init_30 rfl ?_
  refine fx_aload_n (pc' := 34) hF d_MD_init_33 rfl 0 rfl rfl ?_
  refine fx_bipush (pc' := 36) hF (v := (100 : Int32)) d_MD_init_34 rfl rfl ?_
  obtain ⟨a25, L26, ea25, eL26, ba25, ca25, sa25, h⟩ := fw_nw_some h
  obtain ⟨I27, eI27, h⟩ := fw_let_some h
  refine fx_newa (pc' := 38) (hC L20) hg hsz hA hk22 (by decide) hl23 ea25 eL26 eI27 ca25 sa25 (by decide) rfl ((hC []).2.1.2 0 _ rfl).2 fw_cell20 (by decide) (hw _ wq_1_65) (by decide) rfl (by decide) d_MD_init_36 rfl ?_
  have hk28 : (fw_k L26 k0).1 = 6 := fw_k_old eL26 hk22 (by decide)
  have ka25 : (fw_k L26 a25).1 = 20 := fw_k_new ea25 eL26
  have hl29 : l0 ≤ L26.length := fw_hl eL26 hl23
  obtain ⟨I30, eI30, h⟩ := fw_let_some h
  refine fx_putr (pc' := 41) (hC L26) hk28 (by decide) rfl iw_MD 8 (by decide) (by decide) rfl (fw_nn ba25) (fw_ne ba25) ty_MD tyok_MD nn_MD rfl eI30 (tyok_MD 8 (by decide)) rfl rfl (hw _ wq_3_124) rfl d_MD_init_38 rfl ?_
  refine fx_aload_n (pc' := 42) hF d_MD_init_41 rfl 0 rfl rfl ?_
  refine fx_iconst (pc' := 43) hF (v := (-1 : Int32)) d_MD_init_42 rfl rfl ?_
  obtain ⟨I31, eI31, h⟩ := fw_let_some h
  refine fx_puti (pc' := 46) (hC L26) hk28 (by decide) rfl iw_MD 11 (by decide) (by decide) rfl ty_MD tyok_MD nn_MD rfl eI31 (tyok_MD 11 (by decide)) rfl rfl (hw _ wq_3_127) rfl d_MD_init_43 rfl ?_
  refine fx_aload_n (pc' := 47) hF d_MD_init_46 rfl 0 rfl rfl ?_
  refine fx_sipush (pc' := 50) hF (v := (140 : Int32)) d_MD_init_47 rfl rfl ?_
  obtain ⟨a32, L33, ea32, eL33, ba32, ca32, sa32, h⟩ := fw_nw_some h
  obtain ⟨I34, eI34, h⟩ := fw_let_some h
  refine fx_newa (pc' := 52) (hC L26) hg hsz hA hk28 (by decide) hl29 ea32 eL33 eI34 ca32 sa32 (by decide) rfl ((hC []).2.1.2 0 _ rfl).2 fw_cell20 (by decide) (hw _ wq_1_65) (by decide) rfl (by decide) d_MD_init_50 rfl ?_
  have hk35 : (fw_k L33 k0).1 = 6 := fw_k_old eL33 hk28 (by decide)
  have ka32 : (fw_k L33 a32).1 = 20 := fw_k_new ea32 eL33
  have hl36 : l0 ≤ L33.length := fw_hl eL33 hl29
  obtain ⟨I37, eI37, h⟩ := fw_let_some h
  refine fx_putr (pc' := 55) (hC L33) hk35 (by decide) rfl iw_MD 13 (by decide) (by decide) rfl (fw_nn ba32) (fw_ne ba32) ty_MD tyok_MD nn_MD rfl eI37 (tyok_MD 13 (by decide)) rfl rfl (hw _ wq_3_129) rfl d_MD_init_52 rfl ?_
  refine fx_aload_n (pc' := 56) hF d_MD_init_55 rfl 0 rfl rfl ?_
  refine fx_iconst (pc' := 57) hF (v := (-1 : Int32)) d_MD_init_56 rfl rfl ?_
  obtain ⟨I38, eI38, h⟩ := fw_let_some h
  refine fx_puti (pc' := 60) (hC L33) hk35 (by decide) rfl iw_MD 16 (by decide) (by decide) rfl ty_MD tyok_MD nn_MD rfl eI38 (tyok_MD 16 (by decide)) rfl rfl (hw _ wq_3_132) rfl d_MD_init_57 rfl ?_
  refine fx_aload_n (pc' := 61) hF d_MD_init_60 rfl 0 rfl rfl ?_
  refine fx_bipush (pc' := 63) hF (v := (20 : Int32)) d_MD_init_61 rfl rfl ?_
  obtain ⟨a39, L40, ea39, eL40, ba39, ca39, sa39, h⟩ := fw_nw_some h
  obtain ⟨I41, eI41, h⟩ := fw_let_some h
  refine fx_newa (pc' := 65) (hC L33) hg hsz hA hk35 (by decide) hl36 ea39 eL40 eI41 ca39 sa39 (by decide) rfl ((hC []).2.1.2 0 _ rfl).2 fw_cell20 (by decide) (hw _ wq_1_65) (by decide) rfl (by decide) d_MD_init_63 rfl ?_
  have hk42 : (fw_k L40 k0).1 = 6 := fw_k_old eL40 hk35 (by decide)
  have ka39 : (fw_k L40 a39).1 = 20 := fw_k_new ea39 eL40
  have hl43 : l0 ≤ L40.length := fw_hl eL40 hl36
  obtain ⟨I44, eI44, h⟩ := fw_let_some h
  refine fx_putr (pc' := 68) (hC L40) hk42 (by decide) rfl iw_MD 17 (by decide) (by decide) rfl (fw_nn ba39) (fw_ne ba39) ty_MD tyok_MD nn_MD rfl eI44 (tyok_MD 17 (by decide)) rfl rfl (hw _ wq_3_133) rfl d_MD_init_65 rfl ?_
  refine fx_aload_n (pc' := 69) hF d_MD_init_68 rfl 0 rfl rfl ?_
  refine fx_bipush (pc' := 71) hF (v := (100 : Int32)) d_MD_init_69 rfl rfl ?_
  obtain ⟨a45, L46, ea45, eL46, ba45, ca45, sa45, h⟩ := fw_nw_some h
  obtain ⟨I47, eI47, h⟩ := fw_let_some h
  refine fx_newa (pc' := 73) (hC L40) hg hsz hA hk42 (by decide) hl43 ea45 eL46 eI47 ca45 sa45 (by decide) rfl ((hC []).2.1.2 1 _ rfl).2 fw_cell21 (by decide) (hw _ wq_1_64) (by decide) rfl (by decide) d_MD_init_71 rfl ?_
  have hk48 : (fw_k L46 k0).1 = 6 := fw_k_old eL46 hk42 (by decide)
  have ka45 : (fw_k L46 a45).1 = 21 := fw_k_new ea45 eL46
  have hl49 : l0 ≤ L46.length := fw_hl eL46 hl43
  obtain ⟨I50, eI50, h⟩ := fw_let_some h
  refine fx_putr (pc' := 76) (hC L46) hk48 (by decide) rfl iw_MD 18 (by decide) (by decide) rfl (fw_nn ba45) (fw_ne ba45) ty_MD tyok_MD nn_MD rfl eI50 (tyok_MD 18 (by decide)) rfl rfl (hw _ wq_3_134) rfl d_MD_init_73 rfl ?_
  refine fx_aload_n (pc' := 77) hF d_MD_init_76 rfl 0 rfl rfl ?_
  refine fx_iconst (pc' := 78) hF (v := (3 : Int32)) d_MD_init_77 rfl rfl ?_
  obtain ⟨a51, L52, ea51, eL52, ba51, ca51, sa51, h⟩ := fw_nw_some h
  obtain ⟨I53, eI53, h⟩ := fw_let_some h
  refine fx_newa (pc' := 80) (hC L46) hg hsz hA hk48 (by decide) hl49 ea51 eL52 eI53 ca51 sa51 (by decide) rfl ((hC []).2.1.2 0 _ rfl).2 fw_cell20 (by decide) (hw _ wq_1_65) (by decide) rfl (by decide) d_MD_init_78 rfl ?_
  have hk54 : (fw_k L52 k0).1 = 6 := fw_k_old eL52 hk48 (by decide)
  have ka51 : (fw_k L52 a51).1 = 20 := fw_k_new ea51 eL52
  have hl55 : l0 ≤ L52.length := fw_hl eL52 hl49
  obtain ⟨I56, eI56, h⟩ := fw_let_some h
  refine fx_putr (pc' := 83) (hC L52) hk54 (by decide) rfl iw_MD 19 (by decide) (by decide) rfl (fw_nn ba51) (fw_ne ba51) ty_MD tyok_MD nn_MD rfl eI56 (tyok_MD 19 (by decide)) rfl rfl (hw _ wq_3_135) rfl d_MD_init_80 rfl ?_
  refine fx_aload_n (pc' := 84) hF d_MD_init_83 rfl 0 rfl rfl ?_
  refine fx_iconst (pc' := 85) hF (v := (3 : Int32)) d_MD_init_84 rfl rfl ?_
  obtain ⟨a57, L58, ea57, eL58, ba57, ca57, sa57, h⟩ := fw_nw_some h
  obtain ⟨I59, eI59, h⟩ := fw_let_some h
  refine fx_newa (pc' := 87) (hC L52) hg hsz hA hk54 (by decide) hl55 ea57 eL58 eI59 ca57 sa57 (by decide) rfl ((hC []).2.1.2 0 _ rfl).2 fw_cell20 (by decide) (hw _ wq_1_65) (by decide) rfl (by decide) d_MD_init_85 rfl ?_
  have hk60 : (fw_k L58 k0).1 = 6 := fw_k_old eL58 hk54 (by decide)
  have ka57 : (fw_k L58 a57).1 = 20 := fw_k_new ea57 eL58
  have hl61 : l0 ≤ L58.length := fw_hl eL58 hl55
  obtain ⟨I62, eI62, h⟩ := fw_let_some h
  refine fx_putr (pc' := 90) (hC L58) hk60 (by decide) rfl iw_MD 20 (by decide) (by decide) rfl (fw_nn ba57) (fw_ne ba57) ty_MD tyok_MD nn_MD rfl eI62 (tyok_MD 20 (by decide)) rfl rfl (hw _ wq_3_136) rfl d_MD_init_87 rfl ?_
  refine fx_aload_n (pc' := 91) hF d_MD_init_90 rfl 0 rfl rfl ?_
  refine fx_iconst (pc' := 92) hF (v := (3 : Int32)) d_MD_init_91 rfl rfl ?_
  obtain ⟨a63, L64, ea63, eL64, ba63, ca63, sa63, h⟩ := fw_nw_some h
  obtain ⟨I65, eI65, h⟩ := fw_let_some h
  refine fx_newa (pc' := 94) (hC L58) hg hsz hA hk60 (by decide) hl61 ea63 eL64 eI65 ca63 sa63 (by decide) rfl ((hC []).2.1.2 0 _ rfl).2 fw_cell20 (by decide) (hw _ wq_1_65) (by decide) rfl (by decide) d_MD_init_92 rfl ?_
  have hk66 : (fw_k L64 k0).1 = 6 := fw_k_old eL64 hk60 (by decide)
  have ka63 : (fw_k L64 a63).1 = 20 := fw_k_new ea63 eL64
  have hl67 : l0 ≤ L64.length := fw_hl eL64 hl61
  obtain ⟨I68, eI68, h⟩ := fw_let_some h
  refine fx_putr (pc' := 97) (hC L64) hk66 (by decide) rfl iw_MD 21 (by decide) (by decide) rfl (fw_nn ba63) (fw_ne ba63) ty_MD tyok_MD nn_MD rfl eI68 (tyok_MD 21 (by decide)) rfl rfl (hw _ wq_3_137) rfl d_MD_init_94 rfl ?_
  refine fx_aload_n (pc' := 98) hF d_MD_init_97 rfl 0 rfl rfl ?_
  refine fx_iconst (pc' := 99) hF (v := (3 : Int32)) d_MD_init_98 rfl rfl ?_
  obtain ⟨a69, L70, ea69, eL70, ba69, ca69, sa69, h⟩ := fw_nw_some h
  obtain ⟨I71, eI71, h⟩ := fw_let_some h
  refine fx_newa (pc' := 101) (hC L64) hg hsz hA hk66 (by decide) hl67 ea69 eL70 eI71 ca69 sa69 (by decide) rfl ((hC []).2.1.2 0 _ rfl).2 fw_cell20 (by decide) (hw _ wq_1_65) (by decide) rfl (by decide) d_MD_init_99 rfl ?_
  have hk72 : (fw_k L70 k0).1 = 6 := fw_k_old eL70 hk66 (by decide)
  have ka69 : (fw_k L70 a69).1 = 20 := fw_k_new ea69 eL70
  have hl73 : l0 ≤ L70.length := fw_hl eL70 hl67
  obtain ⟨I74, eI74, h⟩ := fw_let_some h
  refine fx_putr (pc' := 104) (hC L70) hk72 (by decide) rfl iw_MD 22 (by decide) (by decide) rfl (fw_nn ba69) (fw_ne ba69) ty_MD tyok_MD nn_MD rfl eI74 (tyok_MD 22 (by decide)) rfl rfl (hw _ wq_3_138) rfl d_MD_init_101 rfl ?_
  refine fx_aload_n (pc' := 105) hF d_MD_init_104 rfl 0 rfl rfl ?_
  refine fx_iconst (pc' := 106) hF (v := (3 : Int32)) d_MD_init_105 rfl rfl ?_
  obtain ⟨a75, L76, ea75, eL76, ba75, ca75, sa75, h⟩ := fw_nw_some h
  obtain ⟨I77, eI77, h⟩ := fw_let_some h
  refine fx_newa (pc' := 108) (hC L70) hg hsz hA hk72 (by decide) hl73 ea75 eL76 eI77 ca75 sa75 (by decide) rfl ((hC []).2.1.2 0 _ rfl).2 fw_cell20 (by decide) (hw _ wq_1_65) (by decide) rfl (by decide) d_MD_init_106 rfl ?_
  have hk78 : (fw_k L76 k0).1 = 6 := fw_k_old eL76 hk72 (by decide)
  have ka75 : (fw_k L76 a75).1 = 20 := fw_k_new ea75 eL76
  have hl79 : l0 ≤ L76.length := fw_hl eL76 hl73
  obtain ⟨I80, eI80, h⟩ := fw_let_some h
  refine fx_putr (pc' := 111) (hC L76) hk78 (by decide) rfl iw_MD 23 (by decide) (by decide) rfl (fw_nn ba75) (fw_ne ba75) ty_MD tyok_MD nn_MD rfl eI80 (tyok_MD 23 (by decide)) rfl rfl (hw _ wq_3_139) rfl d_MD_init_108 rfl ?_
  refine fx_aload_n (pc' := 112) hF d_MD_init_111 rfl 0 rfl rfl ?_
  refine fx_bipush (pc' := 114) hF (v := (15 : Int32)) d_MD_init_112 rfl rfl ?_
  obtain ⟨a81, L82, ea81, eL82, ba81, ca81, sa81, h⟩ := fw_nw_some h
  obtain ⟨I83, eI83, h⟩ := fw_let_some h
  refine fx_newa (pc' := 116) (hC L76) hg hsz hA hk78 (by decide) hl79 ea81 eL82 eI83 ca81 sa81 (by decide) rfl ((hC []).2.1.2 1 _ rfl).2 fw_cell21 (by decide) (hw _ wq_1_64) (by decide) rfl (by decide) d_MD_init_114 rfl ?_
  have hk84 : (fw_k L82 k0).1 = 6 := fw_k_old eL82 hk78 (by decide)
  have ka81 : (fw_k L82 a81).1 = 21 := fw_k_new ea81 eL82
  have hl85 : l0 ≤ L82.length := fw_hl eL82 hl79
  obtain ⟨I86, eI86, h⟩ := fw_let_some h
  refine fx_putr (pc' := 119) (hC L82) hk84 (by decide) rfl iw_MD 24 (by decide) (by decide) rfl (fw_nn ba81) (fw_ne ba81) ty_MD tyok_MD nn_MD rfl eI86 (tyok_MD 24 (by decide)) rfl rfl (hw _ wq_3_140) rfl d_MD_init_116 rfl ?_
  refine fx_aload_n (pc' := 120) hF d_MD_init_119 rfl 0 rfl rfl ?_
  refine fx_iload_n (pc' := 121) hF d_MD_init_120 rfl 1 rfl rfl ?_
  refine fx_iconst (pc' := 122) hF (v := (3 : Int32)) d_MD_init_121 rfl rfl ?_
  refine fx_icmp_ge hF (tgt := 129) (pc' := 125) d_MD_init_122 rfl rfl (fun q87 => ?_) (fun q87 => ?_)
  · rw [if_pos q87] at h
    refine fx_iload_n (pc' := 130) hF d_MD_init_129 rfl 1 rfl rfl ?_
    refine fx_iconst (pc' := 131) hF (v := (5 : Int32)) d_MD_init_130 rfl rfl ?_
    refine fx_icmp_le hF (tgt := 138) (pc' := 134) d_MD_init_131 rfl rfl (fun q88 => ?_) (fun q88 => ?_)
    · rw [if_pos q88] at h
      refine fx_iload_n (pc' := 139) hF d_MD_init_138 rfl 1 rfl rfl ?_
      refine fx_lv [0, 2, 3] rfl ?_
      exact B139 L82 I86 x2 x3 x1 hk84 hl85 h
    · rw [if_neg q88] at h
      refine fx_iconst (pc' := 135) hF (v := (5 : Int32)) d_MD_init_134 rfl rfl ?_
      refine fx_goto hF (tgt := 139) d_MD_init_135 rfl ?_
      refine fx_lv [0, 2, 3] rfl ?_
      exact B139 L82 I86 x2 x3 (5 : Int32) hk84 hl85 h
  · rw [if_neg q87] at h
    refine fx_iconst (pc' := 126) hF (v := (3 : Int32)) d_MD_init_125 rfl rfl ?_
    refine fx_goto hF (tgt := 139) d_MD_init_126 rfl ?_
    refine fx_lv [0, 2, 3] rfl ?_
    exact B139 L82 I86 x2 x3 (3 : Int32) hk84 hl85 h
