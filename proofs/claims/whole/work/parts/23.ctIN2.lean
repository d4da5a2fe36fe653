set_option maxHeartbeats 4000000 in
set_option maxRecDepth 100000 in
theorem ct_CH_init (l : Launch) (D : va_G) (aC : Nat → ClassId) (g : Nat → Nat) (b l0 : Nat) (L : List (Nat × Nat)) (I : Nat → Nat → Int32) (k0 : Nat) (Rr : List (Nat × Nat) × (Nat → Nat → Int32)) (hg : ∀ k, g k = b + k) (hl0 : L.length = l0) (hk0 : ((fw_k L) k0).1 = 0) (h : fnc_CH_init l0 L I k0 = some Rr) : fw_Mc l y_CH_init w_CH_init r_CH_init D aC g b L I [.ref (g k0)] Rr 22 167 := by
  refine fw_ofGc (cc := b_CH_init) (maxL := 2) (ws' := fw_ws) (by decide +kernel) hg hl0 (Nat.le_of_ble_eq_true rfl) rfl rfl ?_
  intro p e s m args below meth c A Q hC hN hA hsz hin he
  have hF := (hC []).1
  have hl : l0 ≤ L.length := Nat.le_of_eq hl0.symm
  have hw : ∀ w ∈ fw_ws, w.before args s = true := fun w hw => hF.2.2.2.2 w (List.mem_cons_of_mem _ hw)
  unfold fnc_CH_init at h
  have B31 : ∀ (f : Nat) (L : List (Nat × Nat)) (I : Nat → Nat → Int32) (x1 : Int32) (hk0 : (fw_k L k0).1 = 0) (hl : l0 ≤ L.length), fnc_CH_init_31 l0 f L I k0 x1 = some Rr → fw_G p l e r_CH_init s m args below meth c (L.length - l0) (fw_ss l0 L) Q 2 D aC A g L.length (fw_k L) I 31 [(0, .ref (g k0)), (1, .int x1)] [] := by
    intro f
    induction f with
    | zero =>
      intro L I x1 hk0 hl h
      rw [fnc_CH_init_31] at h
      cases h
    | succ f ih =>
      intro L I x1 hk0 hl h
      rw [fnc_CH_init_31] at h
      refine fx_iload_n (pc' := 32) hF d_CH_init_31 rfl 1 rfl rfl ?_
      refine fx_bipush (pc' := 34) hF (v := (20 : Int32)) d_CH_init_32 rfl rfl ?_
      refine fx_icmp_ge hF (tgt := 56) (pc' := 37) d_CH_init_34 rfl rfl (fun q20 => ?_) (fun q20 => ?_)
      · rw [if_pos q20] at h
        obtain ⟨q21, h⟩ := fw_gd_some h
        exact he L I _ _ d_CH_init_56 (of_decide_eq_true q21).1 (of_decide_eq_true q21).2 h
      · rw [if_neg q20] at h
        refine fx_aload_n (pc' := 38) hF d_CH_init_37 rfl 0 rfl rfl ?_
        obtain ⟨a22, na22, ea22, ka22, h⟩ := fw_ld_some h
        refine fx_getr (pc' := 41) (hC L) hk0 (by decide) rfl iw_CH 0 (by decide) (by decide) rfl na22 ea22 (hw _ wq_1_118) rfl d_CH_init_38 rfl ?_
        refine fx_iload_n (pc' := 42) hF d_CH_init_41 rfl 1 rfl rfl ?_
        obtain ⟨a23, L24, ea23, eL24, ba23, ca23, sa23, h⟩ := fw_nw_some h
        obtain ⟨I25, eI25, h⟩ := fw_let_some h
        refine fx_new (pc' := 45) (hC L) hg hsz hA hk0 (by decide) hl ea23 eL24 eI25 ca23 sa23 (by decide) rfl rfl iw_MS ty_MS tyok_MS df_MS (hw _ wq_1_72) (hw _ wq_1_74) (hw _ wq_1_5) d_CH_init_42 rfl ?_
        have hk26 : (fw_k L24 k0).1 = 0 := fw_k_old eL24 hk0 (by decide)
        have hk27 : (fw_k L24 a22).1 = 24 := fw_k_old eL24 ka22 (by decide)
        have ka23 : (fw_k L24 a23).1 = 1 := fw_k_new ea23 eL24
        have hl28 : l0 ≤ L24.length := fw_hl eL24 hl
        refine fx_dup (pc' := 46) hF d_CH_init_45 rfl rfl ?_
        obtain ⟨L29, I30, c31, eL29, nL29, sL29, mL29, h⟩ := fw_bc_some h
        obtain ⟨xL29, eL29⟩ := eL29
        refine fx_ctorN (pc' := 49) (As := []) (st := [.ref (g a23), .int x1, .ref (g a22)]) (hC L24) hN hg hsz hA hk26 (by decide) hl28 eL29 nL29 sL29 mL29 (ct_MS_init l D aC g b L24.length L24 I25 a23 (L29, I30) hg rfl ka23 c31) ⟨va_cnB 0 hF.2.2.2.2 (fw_gN wq_1_77) rfl rfl rfl (hN.1 _ wn_1_75) (hw _ wq_1_5) ⟨by decide +kernel, by decide +kernel, by decide +kernel⟩ ⟨Nat.le_of_ble_eq_true rfl, Nat.le_of_ble_eq_true rfl⟩, rfl, hw _ wq_1_76⟩ rfl rfl (Nat.le_of_ble_eq_true rfl) d_CH_init_46 rfl ?_
        have hk32 : (fw_k L29 k0).1 = 0 := fw_k_old eL29 hk26 (by decide)
        have hk33 : (fw_k L29 a22).1 = 24 := fw_k_old eL29 hk27 (by decide)
        have hk34 : (fw_k L29 a23).1 = 1 := fw_k_old eL29 ka23 (by decide)
        have hl35 : l0 ≤ L29.length := fw_hl eL29 hl28
        obtain ⟨q36, h⟩ := fw_gd_some h
        obtain ⟨I37, eI37, h⟩ := fw_let_some h
        refine fx_aast24 (pc' := 50) (hC L29) hk33 q36 eI37 hk34 (fw_nn ba23) (fw_ne ba23) d_CH_init_49 rfl ?_
        refine fx_iinc (pc' := 53) hF (v := x1 + 1) (lv' := [(1, .int (x1 + 1)), (0, .ref (g k0))]) d_CH_init_50 1 rfl rfl (by decide) rfl rfl ?_
        refine fx_goto hF (tgt := 31) d_CH_init_53 rfl ?_
        refine fx_lv [1, 0] rfl ?_
        exact ih L29 I37 (x1 + 1) hk32 hl35 h
  change fw_G p l e r_CH_init s m args below meth c (L.length - l0) (fw_ss l0 L) Q 2 D aC A g L.length (fw_k L) I 0 [(0, .ref (g k0))] []
  refine fx_aload_n (pc' := 1) hF d_CH_init_0 rfl 0 rfl rfl ?_
  refine fx_objInit (pc' := 4) hF (hw _ wq_1_71) (hw _ wq_1_22) (hw _ wq_1_23) (Nat.le_of_ble_eq_true rfl) (Nat.le_of_ble_eq_true rfl) d_CH_init_1 rfl ?_
  refine fx_aload_n (pc' := 5) hF d_CH_init_4 rfl 0 rfl rfl ?_
  refine fx_bipush (pc' := 7) hF (v := (20 : Int32)) d_CH_init_5 rfl rfl ?_
  obtain ⟨a1, L2, ea1, eL2, ba1, ca1, sa1, h⟩ := fw_nw_some h
  obtain ⟨I3, eI3, h⟩ := fw_let_some h
  refine fx_anew (pc' := 10) (hC L) hg hsz hA hk0 (by decide) hl ea1 eL2 eI3 ca1 sa1 (by decide) (fw_RAo ((hC []).2.1.2 4 _ rfl).2) hN.2.2.1 (hw _ wq_1_72) (by decide) rfl (by decide) d_CH_init_7 rfl ?_
  have hk4 : (fw_k L2 k0).1 = 0 := fw_k_old eL2 hk0 (by decide)
  have ka1 : (fw_k L2 a1).1 = 24 := fw_k_new ea1 eL2
  have hl5 : l0 ≤ L2.length := fw_hl eL2 hl
  obtain ⟨I6, eI6, h⟩ := fw_let_some h
  refine fx_putrF (pc' := 13) (hC L2) hk4 (by decide) rfl iw_CH 0 (by decide) (by decide) rfl (fw_nn ba1) (fw_ne ba1) ty_CH tyok_CH nn_CH rfl hin rfl eI6 (tyok_CH 0 (by decide)) rfl rfl (hw _ wq_1_118) rfl d_CH_init_10 rfl ?_
  refine fx_aload_n (pc' := 14) hF d_CH_init_13 rfl 0 rfl rfl ?_
  obtain ⟨a7, L8, ea7, eL8, ba7, ca7, sa7, h⟩ := fw_nw_some h
  obtain ⟨I9, eI9, h⟩ := fw_let_some h
  refine fx_new (pc' := 17) (hC L2) hg hsz hA hk4 (by decide) hl5 ea7 eL8 eI9 ca7 sa7 (by decide) rfl rfl iw_MS ty_MS tyok_MS df_MS (hw _ wq_1_72) (hw _ wq_1_74) (hw _ wq_1_5) d_CH_init_14 rfl ?_
  have hk10 : (fw_k L8 k0).1 = 0 := fw_k_old eL8 hk4 (by decide)
  have ka7 : (fw_k L8 a7).1 = 1 := fw_k_new ea7 eL8
  have hl11 : l0 ≤ L8.length := fw_hl eL8 hl5
  refine fx_dup (pc' := 18) hF d_CH_init_17 rfl rfl ?_
  obtain ⟨L12, I13, c14, eL12, nL12, sL12, mL12, h⟩ := fw_bc_some h
  obtain ⟨xL12, eL12⟩ := eL12
  refine fx_ctorN (pc' := 21) (As := []) (st := [.ref (g a7), .ref (g k0)]) (hC L8) hN hg hsz hA hk10 (by decide) hl11 eL12 nL12 sL12 mL12 (ct_MS_init l D aC g b L8.length L8 I9 a7 (L12, I13) hg rfl ka7 c14) ⟨va_cnB 0 hF.2.2.2.2 (fw_gN wq_1_77) rfl rfl rfl (hN.1 _ wn_1_75) (hw _ wq_1_5) ⟨by decide +kernel, by decide +kernel, by decide +kernel⟩ ⟨Nat.le_of_ble_eq_true rfl, Nat.le_of_ble_eq_true rfl⟩, rfl, hw _ wq_1_76⟩ rfl rfl (Nat.le_of_ble_eq_true rfl) d_CH_init_18 rfl ?_
  have hk15 : (fw_k L12 k0).1 = 0 := fw_k_old eL12 hk10 (by decide)
  have hk16 : (fw_k L12 a7).1 = 1 := fw_k_old eL12 ka7 (by decide)
  have hl17 : l0 ≤ L12.length := fw_hl eL12 hl11
  obtain ⟨I18, eI18, h⟩ := fw_let_some h
  refine fx_putr (pc' := 24) (hC L12) hk15 (by decide) rfl iw_CH 1 (by decide) (by decide) rfl (fw_nn ba7) (fw_ne ba7) ty_CH tyok_CH nn_CH rfl eI18 (tyok_CH 1 (by decide)) rfl rfl (hw _ wq_1_120) rfl d_CH_init_21 rfl ?_
  refine fx_aload_n (pc' := 25) hF d_CH_init_24 rfl 0 rfl rfl ?_
  refine fx_iconst (pc' := 26) hF (v := (0 : Int32)) d_CH_init_25 rfl rfl ?_
  obtain ⟨I19, eI19, h⟩ := fw_let_some h
  refine fx_puti (pc' := 29) (hC L12) hk15 (by decide) rfl iw_CH 2 (by decide) (by decide) rfl ty_CH tyok_CH nn_CH rfl eI19 (tyok_CH 2 (by decide)) rfl rfl (hw _ wq_1_121) rfl d_CH_init_26 rfl ?_
  refine fx_iconst (pc' := 30) hF (v := (0 : Int32)) d_CH_init_29 rfl rfl ?_
  refine fx_istore_n (pc' := 31) hF (lv' := [(1, .int (0 : Int32)), (0, .ref (g k0))]) d_CH_init_30 rfl (by decide) rfl rfl ?_
  refine fx_lv [1, 0] rfl ?_
  exact B31 200 L12 I19 (0 : Int32) hk15 hl17 h
