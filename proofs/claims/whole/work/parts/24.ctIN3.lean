set_option maxHeartbeats 4000000 in
set_option maxRecDepth 100000 in
theorem ct_RC_init (l : Launch) (D : va_G) (aC : Nat → ClassId) (g : Nat → Nat) (b l0 : Nat) (L : List (Nat × Nat)) (I : Nat → Nat → Int32) (k0 : Nat) (x1 : Int32) (Rr : List (Nat × Nat) × (Nat → Nat → Int32)) (hg : ∀ k, g k = b + k) (hl0 : L.length = l0) (hk0 : ((fw_k L) k0).1 = 2) (h : fnc_RC_init l0 L I k0 x1 = some Rr) : fw_Mc l y_RC_init w_RC_init r_RC_init D aC g b L I [.ref (g k0), .int x1] Rr 0 0 := by
  refine fw_ofGc (cc := b_RC_init) (maxL := 2) (ws' := fw_ws) (by decide +kernel) hg hl0 (Nat.le_of_ble_eq_true rfl) rfl rfl ?_
  intro p e s m args below meth c A Q hC hN hA hsz hin he
  have hF := (hC []).1
  have hl : l0 ≤ L.length := Nat.le_of_eq hl0.symm
  have hw : ∀ w ∈ fw_ws, w.before args s = true := fun w hw => hF.2.2.2.2 w (List.mem_cons_of_mem _ hw)
  unfold fnc_RC_init at h
  change fw_G p l e r_RC_init s m args below meth c (L.length - l0) (fw_ss l0 L) Q 2 D aC A g L.length (fw_k L) I 0 [(0, .ref (g k0)), (1, .int x1)] []
  refine fx_aload_n (pc' := 1) hF d_RC_init_0 rfl 0 rfl rfl ?_
  refine fx_objInit (pc' := 4) hF (hw _ wq_1_163) (hw _ wq_1_22) (hw _ wq_1_23) (Nat.le_of_ble_eq_true rfl) (Nat.le_of_ble_eq_true rfl) d_RC_init_1 rfl ?_
  refine fx_aload_n (pc' := 5) hF d_RC_init_4 rfl 0 rfl rfl ?_
  refine fx_iconst (pc' := 6) hF (v := (0 : Int32)) d_RC_init_5 rfl rfl ?_
  obtain ⟨I1, eI1, h⟩ := fw_let_some h
  refine fx_puti (pc' := 9) (hC L) hk0 (by decide) rfl iw_RC 1 (by decide) (by decide) rfl ty_RC tyok_RC nn_RC rfl eI1 (tyok_RC 1 (by decide)) rfl rfl (hw _ wq_1_166) rfl d_RC_init_6 rfl ?_
  refine fx_aload_n (pc' := 10) hF d_RC_init_9 rfl 0 rfl rfl ?_
  refine fx_iconst (pc' := 11) hF (v := (0 : Int32)) d_RC_init_10 rfl rfl ?_
  obtain ⟨I2, eI2, h⟩ := fw_let_some h
  refine fx_puti (pc' := 14) (hC L) hk0 (by decide) rfl iw_RC 2 (by decide) (by decide) rfl ty_RC tyok_RC nn_RC rfl eI2 (tyok_RC 2 (by decide)) rfl rfl (hw _ wq_1_168) rfl d_RC_init_11 rfl ?_
  refine fx_aload_n (pc' := 15) hF d_RC_init_14 rfl 0 rfl rfl ?_
  refine fx_iconst (pc' := 16) hF (v := (0 : Int32)) d_RC_init_15 rfl rfl ?_
  obtain ⟨I3, eI3, h⟩ := fw_let_some h
  refine fx_puti (pc' := 19) (hC L) hk0 (by decide) rfl iw_RC 3 (by decide) (by decide) rfl ty_RC tyok_RC nn_RC rfl eI3 (tyok_RC 3 (by decide)) rfl rfl (hw _ wq_1_170) rfl d_RC_init_16 rfl ?_
  refine fx_aload_n (pc' := 20) hF d_RC_init_19 rfl 0 rfl rfl ?_
  refine fx_iconst (pc' := 21) hF (v := (0 : Int32)) d_RC_init_20 rfl rfl ?_
  obtain ⟨I4, eI4, h⟩ := fw_let_some h
  refine fx_puti (pc' := 24) (hC L) hk0 (by decide) rfl iw_RC 4 (by decide) (by decide) rfl ty_RC tyok_RC nn_RC rfl eI4 (tyok_RC 4 (by decide)) rfl rfl (hw _ wq_1_172) rfl d_RC_init_21 rfl ?_
  refine fx_aload_n (pc' := 25) hF d_RC_init_24 rfl 0 rfl rfl ?_
  refine fx_iconst (pc' := 26) hF (v := (-1 : Int32)) d_RC_init_25 rfl rfl ?_
  obtain ⟨I5, eI5, h⟩ := fw_let_some h
  refine fx_puti (pc' := 29) (hC L) hk0 (by decide) rfl iw_RC 5 (by decide) (by decide) rfl ty_RC tyok_RC nn_RC rfl eI5 (tyok_RC 5 (by decide)) rfl rfl (hw _ wq_1_174) rfl d_RC_init_26 rfl ?_
  refine fx_aload_n (pc' := 30) hF d_RC_init_29 rfl 0 rfl rfl ?_
  refine fx_iconst (pc' := 31) hF (v := (0 : Int32)) d_RC_init_30 rfl rfl ?_
  obtain ⟨I6, eI6, h⟩ := fw_let_some h
  refine fx_puti (pc' := 34) (hC L) hk0 (by decide) rfl iw_RC 6 (by decide) (by decide) rfl ty_RC tyok_RC nn_RC rfl eI6 (tyok_RC 6 (by decide)) rfl rfl (hw _ wq_1_176) rfl d_RC_init_31 rfl ?_
  refine fx_aload_n (pc' := 35) hF d_RC_init_34 rfl 0 rfl rfl ?_
  refine fx_iload_n (pc' := 36) hF d_RC_init_35 rfl 1 rfl rfl ?_
  obtain ⟨I7, eI7, h⟩ := fw_let_some h
  refine fx_putiF (pc' := 39) (hC L) hk0 (by decide) rfl iw_RC 0 (by decide) (by decide) rfl ty_RC tyok_RC nn_RC rfl hin rfl eI7 (tyok_RC 0 (by decide)) rfl rfl (hw _ wq_1_164) rfl d_RC_init_36 rfl ?_
  obtain ⟨q8, h⟩ := fw_gd_some h
  exact he L I7 _ _ d_RC_init_39 (of_decide_eq_true q8).1 (of_decide_eq_true q8).2 h
