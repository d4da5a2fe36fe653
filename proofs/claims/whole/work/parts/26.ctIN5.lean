set_option maxHeartbeats 4000000 in
set_option maxRecDepth 100000 in
theorem ct_WR_init (l : Launch) (D : va_G) (aC : Nat → ClassId) (g : Nat → Nat) (b l0 : Nat) (L : List (Nat × Nat)) (I : Nat → Nat → Int32) (k0 : Nat) (Rr : List (Nat × Nat) × (Nat → Nat → Int32)) (hg : ∀ k, g k = b + k) (hl0 : L.length = l0) (hk0 : ((fw_k L) k0).1 = 4) (h : fnc_WR_init l0 L I k0 = some Rr) : fw_Mc l y_WR_init w_WR_init r_WR_init D aC g b L I [.ref (g k0)] Rr 2 40 := by
  refine fw_ofGc (cc := b_WR_init) (maxL := 1) (ws' := fw_ws) (by decide +kernel) hg hl0 (Nat.le_of_ble_eq_true rfl) rfl rfl ?_
  intro p e s m args below meth c A Q hC hN hA hsz hin he
  have hF := (hC []).1
  have hl : l0 ≤ L.length := Nat.le_of_eq hl0.symm
  have hw : ∀ w ∈ fw_ws, w.before args s = true := fun w hw => hF.2.2.2.2 w (List.mem_cons_of_mem _ hw)
  unfold fnc_WR_init at h
  change fw_G p l e r_WR_init s m args below meth c (L.length - l0) (fw_ss l0 L) Q 1 D aC A g L.length (fw_k L) I 0 [(0, .ref (g k0))] []
  refine fx_aload_n (pc' := 1) hF d_WR_init_0 rfl 0 rfl rfl ?_
  refine fx_objInit (pc' := 4) hF (hw _ wq_1_135) (hw _ wq_1_22) (hw _ wq_1_23) (Nat.le_of_ble_eq_true rfl) (Nat.le_of_ble_eq_true rfl) d_WR_init_1 rfl ?_
  refine fx_aload_n (pc' := 5) hF d_WR_init_4 rfl 0 rfl rfl ?_
  refine fx_bipush (pc' := 7) hF (v := (20 : Int32)) d_WR_init_5 rfl rfl ?_
  obtain ⟨a1, L2, ea1, eL2, ba1, ca1, sa1, h⟩ := fw_nw_some h
  obtain ⟨I3, eI3, h⟩ := fw_let_some h
  refine fx_newa (ty := .int) (atype := .int) (pc' := 9) (hC L) hg hsz hA hk0 (by decide) hl ea1 eL2 eI3 ca1 sa1 (by decide) rfl (fw_RA20 ((hC []).2.1.2 0 _ rfl).2) fw_cell20 (by decide) (hw _ wq_1_65) (by decide) rfl (by decide) d_WR_init_7 rfl ?_
  have hk4 : (fw_k L2 k0).1 = 4 := fw_k_old eL2 hk0 (by decide)
  have ka1 : (fw_k L2 a1).1 = 20 := fw_k_new ea1 eL2
  have hl5 : l0 ≤ L2.length := fw_hl eL2 hl
  obtain ⟨I6, eI6, h⟩ := fw_let_some h
  refine fx_putrF (pc' := 12) (hC L2) hk4 (by decide) rfl iw_WR 0 (by decide) (by decide) rfl (fw_nn ba1) (fw_ne ba1) ty_WR tyok_WR nn_WR rfl hin rfl eI6 (tyok_WR 0 (by decide)) rfl rfl (hw _ wq_1_136) rfl d_WR_init_9 rfl ?_
  refine fx_aload_n (pc' := 13) hF d_WR_init_12 rfl 0 rfl rfl ?_
  refine fx_bipush (pc' := 15) hF (v := (20 : Int32)) d_WR_init_13 rfl rfl ?_
  obtain ⟨a7, L8, ea7, eL8, ba7, ca7, sa7, h⟩ := fw_nw_some h
  obtain ⟨I9, eI9, h⟩ := fw_let_some h
  refine fx_newa (ty := .int) (atype := .int) (pc' := 17) (hC L2) hg hsz hA hk4 (by decide) hl5 ea7 eL8 eI9 ca7 sa7 (by decide) rfl (fw_RA20 ((hC []).2.1.2 0 _ rfl).2) fw_cell20 (by decide) (hw _ wq_1_65) (by decide) rfl (by decide) d_WR_init_15 rfl ?_
  have hk10 : (fw_k L8 k0).1 = 4 := fw_k_old eL8 hk4 (by decide)
  have ka7 : (fw_k L8 a7).1 = 20 := fw_k_new ea7 eL8
  have hl11 : l0 ≤ L8.length := fw_hl eL8 hl5
  obtain ⟨I12, eI12, h⟩ := fw_let_some h
  refine fx_putrF (pc' := 20) (hC L8) hk10 (by decide) rfl iw_WR 1 (by decide) (by decide) rfl (fw_nn ba7) (fw_ne ba7) ty_WR tyok_WR nn_WR rfl hin rfl eI12 (tyok_WR 1 (by decide)) rfl rfl (hw _ wq_1_138) rfl d_WR_init_17 rfl ?_
  refine fx_aload_n (pc' := 21) hF d_WR_init_20 rfl 0 rfl rfl ?_
  refine fx_iconst (pc' := 22) hF (v := (0 : Int32)) d_WR_init_21 rfl rfl ?_
  obtain ⟨I13, eI13, h⟩ := fw_let_some h
  refine fx_puti (pc' := 25) (hC L8) hk10 (by decide) rfl iw_WR 2 (by decide) (by decide) rfl ty_WR tyok_WR nn_WR rfl eI13 (tyok_WR 2 (by decide)) rfl rfl (hw _ wq_1_140) rfl d_WR_init_22 rfl ?_
  refine fx_aload_n (pc' := 26) hF d_WR_init_25 rfl 0 rfl rfl ?_
  refine fx_iconst (pc' := 27) hF (v := (0 : Int32)) d_WR_init_26 rfl rfl ?_
  obtain ⟨I14, eI14, h⟩ := fw_let_some h
  refine fx_puti (pc' := 30) (hC L8) hk10 (by decide) rfl iw_WR 3 (by decide) (by decide) rfl ty_WR tyok_WR nn_WR rfl eI14 (tyok_WR 3 (by decide)) rfl rfl (hw _ wq_1_142) rfl d_WR_init_27 rfl ?_
  refine fx_aload_n (pc' := 31) hF d_WR_init_30 rfl 0 rfl rfl ?_
  refine fx_iconst (pc' := 32) hF (v := (-1 : Int32)) d_WR_init_31 rfl rfl ?_
  obtain ⟨I15, eI15, h⟩ := fw_let_some h
  refine fx_puti (pc' := 35) (hC L8) hk10 (by decide) rfl iw_WR 4 (by decide) (by decide) rfl ty_WR tyok_WR nn_WR rfl eI15 (tyok_WR 4 (by decide)) rfl rfl (hw _ wq_1_144) rfl d_WR_init_32 rfl ?_
  obtain ⟨q16, h⟩ := fw_gd_some h
  exact he L8 I15 _ _ d_WR_init_35 (of_decide_eq_true q16).1 (of_decide_eq_true q16).2 h
