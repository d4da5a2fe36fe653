set_option maxHeartbeats 4000000 in
set_option maxRecDepth 100000 in
theorem ct_MS_init (l : Launch) (D : va_G) (aC : Nat → ClassId) (g : Nat → Nat) (b l0 : Nat) (L : List (Nat × Nat)) (I : Nat → Nat → Int32) (k0 : Nat) (Rr : List (Nat × Nat) × (Nat → Nat → Int32)) (hg : ∀ k, g k = b + k) (hl0 : L.length = l0) (hk0 : ((fw_k L) k0).1 = 1) (h : fnc_MS_init l0 L I k0 = some Rr) : fw_Mc l y_MS_init w_MS_init r_MS_init D aC g b L I [.ref (g k0)] Rr 0 0 := by
  refine fw_ofGc (cc := b_MS_init) (maxL := 1) (ws' := fw_ws) (by decide +kernel) hg hl0 (Nat.le_of_ble_eq_true rfl) rfl rfl ?_
  intro p e s m args below meth c A Q hC hN hA hsz hin he
  have hF := (hC []).1
  have hl : l0 ≤ L.length := Nat.le_of_eq hl0.symm
  have hw : ∀ w ∈ fw_ws, w.before args s = true := fun w hw => hF.2.2.2.2 w (List.mem_cons_of_mem _ hw)
  unfold fnc_MS_init at h
  change fw_G p l e r_MS_init s m args below meth c (L.length - l0) (fw_ss l0 L) Q 1 D aC A g L.length (fw_k L) I 0 [(0, .ref (g k0))] []
  refine fx_aload_n (pc' := 1) hF d_MS_init_0 rfl 0 rfl rfl ?_
  refine fx_objInit (pc' := 4) hF (hw _ wq_1_78) (hw _ wq_1_22) (hw _ wq_1_23) (Nat.le_of_ble_eq_true rfl) (Nat.le_of_ble_eq_true rfl) d_MS_init_1 rfl ?_
  refine fx_aload_n (pc' := 5) hF d_MS_init_4 rfl 0 rfl rfl ?_
  refine fx_iconst (pc' := 6) hF (v := (0 : Int32)) d_MS_init_5 rfl rfl ?_
  obtain ⟨I1, eI1, h⟩ := fw_let_some h
  refine fx_puti (pc' := 9) (hC L) hk0 (by decide) rfl iw_MS 0 (by decide) (by decide) rfl ty_MS tyok_MS nn_MS rfl eI1 (tyok_MS 0 (by decide)) rfl rfl (hw _ wq_1_79) rfl d_MS_init_6 rfl ?_
  refine fx_aload_n (pc' := 10) hF d_MS_init_9 rfl 0 rfl rfl ?_
  refine fx_iconst (pc' := 11) hF (v := (0 : Int32)) d_MS_init_10 rfl rfl ?_
  obtain ⟨I2, eI2, h⟩ := fw_let_some h
  refine fx_puti (pc' := 14) (hC L) hk0 (by decide) rfl iw_MS 1 (by decide) (by decide) rfl ty_MS tyok_MS nn_MS rfl eI2 (tyok_MS 1 (by decide)) rfl rfl (hw _ wq_1_83) rfl d_MS_init_11 rfl ?_
  refine fx_aload_n (pc' := 15) hF d_MS_init_14 rfl 0 rfl rfl ?_
  refine fx_iconst (pc' := 16) hF (v := (0 : Int32)) d_MS_init_15 rfl rfl ?_
  obtain ⟨I3, eI3, h⟩ := fw_let_some h
  refine fx_puti (pc' := 19) (hC L) hk0 (by decide) rfl iw_MS 2 (by decide) (by decide) rfl ty_MS tyok_MS nn_MS rfl eI3 (tyok_MS 2 (by decide)) rfl rfl (hw _ wq_1_86) rfl d_MS_init_16 rfl ?_
  refine fx_aload_n (pc' := 20) hF d_MS_init_19 rfl 0 rfl rfl ?_
  refine fx_iconst (pc' := 21) hF (v := (0 : Int32)) d_MS_init_20 rfl rfl ?_
  obtain ⟨I4, eI4, h⟩ := fw_let_some h
  refine fx_puti (pc' := 24) (hC L) hk0 (by decide) rfl iw_MS 3 (by decide) (by decide) rfl ty_MS tyok_MS nn_MS rfl eI4 (tyok_MS 3 (by decide)) rfl rfl (hw _ wq_1_90) rfl d_MS_init_21 rfl ?_
  refine fx_aload_n (pc' := 25) hF d_MS_init_24 rfl 0 rfl rfl ?_
  refine fx_iconst (pc' := 26) hF (v := (0 : Int32)) d_MS_init_25 rfl rfl ?_
  obtain ⟨I5, eI5, h⟩ := fw_let_some h
  refine fx_puti (pc' := 29) (hC L) hk0 (by decide) rfl iw_MS 4 (by decide) (by decide) rfl ty_MS tyok_MS nn_MS rfl eI5 (tyok_MS 4 (by decide)) rfl rfl (hw _ wq_1_94) rfl d_MS_init_26 rfl ?_
  refine fx_aload_n (pc' := 30) hF d_MS_init_29 rfl 0 rfl rfl ?_
  refine fx_iconst (pc' := 31) hF (v := (0 : Int32)) d_MS_init_30 rfl rfl ?_
  obtain ⟨I6, eI6, h⟩ := fw_let_some h
  refine fx_puti (pc' := 34) (hC L) hk0 (by decide) rfl iw_MS 5 (by decide) (by decide) rfl ty_MS tyok_MS nn_MS rfl eI6 (tyok_MS 5 (by decide)) rfl rfl (hw _ wq_1_97) rfl d_MS_init_31 rfl ?_
  refine fx_aload_n (pc' := 35) hF d_MS_init_34 rfl 0 rfl rfl ?_
  refine fx_iconst (pc' := 36) hF (v := (0 : Int32)) d_MS_init_35 rfl rfl ?_
  obtain ⟨I7, eI7, h⟩ := fw_let_some h
  refine fx_puti (pc' := 39) (hC L) hk0 (by decide) rfl iw_MS 6 (by decide) (by decide) rfl ty_MS tyok_MS nn_MS rfl eI7 (tyok_MS 6 (by decide)) rfl rfl (hw _ wq_1_100) rfl d_MS_init_36 rfl ?_
  obtain ⟨q8, h⟩ := fw_gd_some h
  exact he L I7 _ _ d_MS_init_39 (of_decide_eq_true q8).1 (of_decide_eq_true q8).2 h
