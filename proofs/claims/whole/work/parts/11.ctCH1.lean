set_option maxHeartbeats 4000000 in
set_option maxRecDepth 100000 in
theorem ct_CH_holds (l : Launch) (D : va_G) (aC : Nat → ClassId) (g : Nat → Nat) (n : Nat) (K : Nat → Nat × Nat) (I : Nat → Nat → Int32) (k0 : Nat) (x1 : Int32) (Rr : Int32 × (Nat → Nat → Int32)) (hn : ∀ k, (K k).1 < 99 → k < n) (hk0 : (K k0).1 = 0) (h : fn_CH_holds K I k0 x1 = some Rr) : fw_Mi l y_CH_holds w_CH_holds r_CH_holds D aC g n K I [.ref (g k0), .int x1] Rr := by
  refine fw_ofGi (cc := b_CH_holds) (maxL := 2) (ws' := fw_ws) (by decide +kernel) hn (Nat.le_of_ble_eq_true rfl) rfl ?_
  intro p e s m args below meth c A Q hC hN hA he
  have hF := hC.1
  have hw : ∀ w ∈ fw_ws, w.before args s = true := fun w hw => hF.2.2.2.2 w (List.mem_cons_of_mem _ hw)
  unfold fn_CH_holds at h
  change fw_G p l e r_CH_holds s m args below meth c 0 0 Q 2 D aC A g n K I 0 [(0, .ref (g k0)), (1, .int x1)] []
  refine fx_iload_n (pc' := 1) hF d_CH_holds_0 rfl 1 rfl rfl ?_
  refine fx_if_lt hF (tgt := 16) (pc' := 4) d_CH_holds_1 rfl rfl (fun q1 => ?_) (fun q1 => ?_)
  · rw [if_pos q1] at h
    refine fx_iconst (pc' := 17) hF (v := (0 : Int32)) d_CH_holds_16 rfl rfl ?_
    exact he I _ _ rfl _ d_CH_holds_17 h
  · rw [if_neg q1] at h
    refine fx_iload_n (pc' := 5) hF d_CH_holds_4 rfl 1 rfl rfl ?_
    refine fx_aload_n (pc' := 6) hF d_CH_holds_5 rfl 0 rfl rfl ?_
    refine fx_geti (pc' := 9) hC hk0 (by decide) rfl iw_CH 2 (by decide) (by decide) rfl (hw _ wq_1_121) rfl d_CH_holds_6 rfl ?_
    refine fx_icmp_ge hF (tgt := 16) (pc' := 12) d_CH_holds_9 rfl rfl (fun q2 => ?_) (fun q2 => ?_)
    · rw [if_pos q2] at h
      refine fx_iconst (pc' := 17) hF (v := (0 : Int32)) d_CH_holds_16 rfl rfl ?_
      exact he I _ _ rfl _ d_CH_holds_17 h
    · rw [if_neg q2] at h
      refine fx_iconst (pc' := 13) hF (v := (1 : Int32)) d_CH_holds_12 rfl rfl ?_
      refine fx_goto hF (tgt := 17) d_CH_holds_13 rfl ?_
      exact he I _ _ rfl _ d_CH_holds_17 h
set_option maxHeartbeats 4000000 in
set_option maxRecDepth 100000 in
theorem ct_CH_send (l : Launch) (D : va_G) (aC : Nat → ClassId) (g : Nat → Nat) (n : Nat) (K : Nat → Nat × Nat) (I : Nat → Nat → Int32) (k0 : Nat) (x1 : Int32) (x2 : Int32) (x3 : Int32) (x4 : Int32) (x5 : Int32) (x6 : Int32) (x7 : Int32) (Rr : Nat → Nat → Int32) (hn : ∀ k, (K k).1 < 99 → k < n) (hk0 : (K k0).1 = 0) (h : fn_CH_send K I k0 x1 x2 x3 x4 x5 x6 x7 = some Rr) : fw_Mv l y_CH_send w_CH_send r_CH_send D aC g n K I [.ref (g k0), .int x1, .int x2, .int x3, .int x4, .int x5, .int x6, .int x7] Rr := by
  refine fw_ofGv (cc := b_CH_send) (maxL := 9) (ws' := fw_ws) (by decide +kernel) hn (Nat.le_of_ble_eq_true rfl) rfl ?_
  intro p e s m args below meth c A Q hC hN hA he
  have hF := hC.1
  have hw : ∀ w ∈ fw_ws, w.before args s = true := fun w hw => hF.2.2.2.2 w (List.mem_cons_of_mem _ hw)
  unfold fn_CH_send at h
  change fw_G p l e r_CH_send s m args below meth c 0 0 Q 9 D aC A g n K I 0 [(0, .ref (g k0)), (1, .int x1), (2, .int x2), (3, .int x3), (4, .int x4), (5, .int x5), (6, .int x6), (7, .int x7)] []
  refine fx_aload_n (pc' := 1) hF d_CH_send_0 rfl 0 rfl rfl ?_
  refine fx_geti (pc' := 4) hC hk0 (by decide) rfl iw_CH 2 (by decide) (by decide) rfl (hw _ wq_1_121) rfl d_CH_send_1 rfl ?_
  refine fx_bipush (pc' := 6) hF (v := (20 : Int32)) d_CH_send_4 rfl rfl ?_
  refine fx_icmp_lt hF (tgt := 10) (pc' := 9) d_CH_send_6 rfl rfl (fun q1 => ?_) (fun q1 => ?_)
  · rw [if_pos q1] at h
    refine fx_aload_n (pc' := 11) hF d_CH_send_10 rfl 0 rfl rfl ?_
    obtain ⟨a2, na2, ea2, ka2, h⟩ := fw_ld_some h
    refine fx_getr (pc' := 14) hC hk0 (by decide) rfl iw_CH 0 (by decide) (by decide) rfl na2 ea2 (hw _ wq_1_118) rfl d_CH_send_11 rfl ?_
    refine fx_aload_n (pc' := 15) hF d_CH_send_14 rfl 0 rfl rfl ?_
    refine fx_geti (pc' := 18) hC hk0 (by decide) rfl iw_CH 2 (by decide) (by decide) rfl (hw _ wq_1_121) rfl d_CH_send_15 rfl ?_
    obtain ⟨q3, h⟩ := fw_gd_some h
    obtain ⟨a4, na4, ea4, ka4, h⟩ := fw_ld_some h
    refine fx_aald24 (pc' := 19) hC ka2 q3 na4 ea4 d_CH_send_18 rfl ?_
    refine fx_astore (pc' := 21) hF (lv' := [(8, .ref (g a4)), (0, .ref (g k0)), (1, .int x1), (2, .int x2), (3, .int x3), (4, .int x4), (5, .int x5), (6, .int x6), (7, .int x7)]) d_CH_send_19 (by decide) rfl rfl ?_
    refine fx_aload (pc' := 23) hF d_CH_send_21 0 rfl rfl ?_
    refine fx_iload_n (pc' := 24) hF d_CH_send_23 rfl 2 rfl rfl ?_
    obtain ⟨I5, eI5, h⟩ := fw_let_some h
    refine fx_putiN (pc' := 27) hC ka4 (by decide) rfl iw_MS 0 (by decide) (by decide) rfl ty_MS tyok_MS nn_MS rfl eI5 (tyok_MS 0 (by decide)) rfl rfl (va_Nw.use rfl (hN.1 _ wn_1_80)) rfl d_CH_send_24 rfl ?_
    refine fx_aload (pc' := 29) hF d_CH_send_27 0 rfl rfl ?_
    refine fx_iload_n (pc' := 30) hF d_CH_send_29 rfl 3 rfl rfl ?_
    obtain ⟨I6, eI6, h⟩ := fw_let_some h
    refine fx_putiN (pc' := 33) hC ka4 (by decide) rfl iw_MS 1 (by decide) (by decide) rfl ty_MS tyok_MS nn_MS rfl eI6 (tyok_MS 1 (by decide)) rfl rfl (va_Nw.use rfl (hN.1 _ wn_1_84)) rfl d_CH_send_30 rfl ?_
    refine fx_aload (pc' := 35) hF d_CH_send_33 0 rfl rfl ?_
    refine fx_iload_n (pc' := 36) hF d_CH_send_35 rfl 4 rfl rfl ?_
    obtain ⟨I7, eI7, h⟩ := fw_let_some h
    refine fx_putiN (pc' := 39) hC ka4 (by decide) rfl iw_MS 2 (by decide) (by decide) rfl ty_MS tyok_MS nn_MS rfl eI7 (tyok_MS 2 (by decide)) rfl rfl (va_Nw.use rfl (hN.1 _ wn_1_87)) rfl d_CH_send_36 rfl ?_
    refine fx_aload (pc' := 41) hF d_CH_send_39 0 rfl rfl ?_
    refine fx_iload (pc' := 43) hF d_CH_send_41 5 rfl rfl ?_
    obtain ⟨I8, eI8, h⟩ := fw_let_some h
    refine fx_putiN (pc' := 46) hC ka4 (by decide) rfl iw_MS 3 (by decide) (by decide) rfl ty_MS tyok_MS nn_MS rfl eI8 (tyok_MS 3 (by decide)) rfl rfl (va_Nw.use rfl (hN.1 _ wn_1_91)) rfl d_CH_send_43 rfl ?_
    refine fx_aload (pc' := 48) hF d_CH_send_46 0 rfl rfl ?_
    refine fx_iload (pc' := 50) hF d_CH_send_48 6 rfl rfl ?_
    obtain ⟨I9, eI9, h⟩ := fw_let_some h
    refine fx_putiN (pc' := 53) hC ka4 (by decide) rfl iw_MS 4 (by decide) (by decide) rfl ty_MS tyok_MS nn_MS rfl eI9 (tyok_MS 4 (by decide)) rfl rfl (va_Nw.use rfl (hN.1 _ wn_1_95)) rfl d_CH_send_50 rfl ?_
    refine fx_aload (pc' := 55) hF d_CH_send_53 0 rfl rfl ?_
    refine fx_iload (pc' := 57) hF d_CH_send_55 7 rfl rfl ?_
    obtain ⟨I10, eI10, h⟩ := fw_let_some h
    refine fx_putiN (pc' := 60) hC ka4 (by decide) rfl iw_MS 5 (by decide) (by decide) rfl ty_MS tyok_MS nn_MS rfl eI10 (tyok_MS 5 (by decide)) rfl rfl (va_Nw.use rfl (hN.1 _ wn_1_98)) rfl d_CH_send_57 rfl ?_
    refine fx_aload (pc' := 62) hF d_CH_send_60 0 rfl rfl ?_
    refine fx_iload (pc' := 64) hF d_CH_send_62 8 rfl rfl ?_
    obtain ⟨I11, eI11, h⟩ := fw_let_some h
    refine fx_putiN (pc' := 67) hC ka4 (by decide) rfl iw_MS 6 (by decide) (by decide) rfl ty_MS tyok_MS nn_MS rfl eI11 (tyok_MS 6 (by decide)) rfl rfl (va_Nw.use rfl (hN.1 _ wn_1_101)) rfl d_CH_send_64 rfl ?_
    refine fx_aload_n (pc' := 68) hF d_CH_send_67 rfl 1 rfl rfl ?_
    refine fx_dup (pc' := 69) hF d_CH_send_68 rfl rfl ?_
    refine fx_geti (pc' := 72) hC hk0 (by decide) rfl iw_CH 2 (by decide) (by decide) rfl (hw _ wq_1_121) rfl d_CH_send_69 rfl ?_
    refine fx_iconst (pc' := 73) hF (v := (1 : Int32)) d_CH_send_72 rfl rfl ?_
    refine fx_iadd (pc' := 74) hF d_CH_send_73 rfl ?_
    obtain ⟨I12, eI12, h⟩ := fw_let_some h
    refine fx_puti (pc' := 77) hC hk0 (by decide) rfl iw_CH 2 (by decide) (by decide) rfl ty_CH tyok_CH nn_CH rfl eI12 (tyok_CH 2 (by decide)) rfl rfl (hw _ wq_1_121) rfl d_CH_send_74 rfl ?_
    exact he I12 _ _ d_CH_send_77 h
  · rw [if_neg q1] at h
    exact he I _ _ d_CH_send_9 h
set_option maxHeartbeats 4000000 in
set_option maxRecDepth 100000 in
theorem ct_CH_takeOut (l : Launch) (D : va_G) (aC : Nat → ClassId) (g : Nat → Nat) (n : Nat) (K : Nat → Nat × Nat) (I : Nat → Nat → Int32) (k0 : Nat) (x1 : Int32) (Rr : Int32 × (Nat → Nat → Int32)) (hn : ∀ k, (K k).1 < 99 → k < n) (hk0 : (K k0).1 = 0) (h : fn_CH_takeOut K I k0 x1 = some Rr) : fw_Mr l y_CH_takeOut w_CH_takeOut r_CH_takeOut D aC g n K I [.ref (g k0), .int x1] Rr := by
  refine fw_ofGr (cc := b_CH_takeOut) (maxL := 4) (ws' := fw_ws) (by decide +kernel) hn (Nat.le_of_ble_eq_true rfl) rfl ?_
  intro p e s m args below meth c A Q hC hN hA he
  have hF := hC.1
  have hw : ∀ w ∈ fw_ws, w.before args s = true := fun w hw => hF.2.2.2.2 w (List.mem_cons_of_mem _ hw)
  unfold fn_CH_takeOut at h
  have B19 : ∀ (f : Nat) (I : Nat → Nat → Int32) (y2 : Int32) (x3 : Int32) (hn2 : ¬ y2 < 0) (hk2 : (K y2.toNatClampNeg).1 = 1), fn_CH_takeOut_19 K f I k0 y2 x3 = some Rr → fw_G p l e r_CH_takeOut s m args below meth c 0 0 Q 4 D aC A g n K I 19 [(0, .ref (g k0)), (2, .ref (g y2.toNatClampNeg)), (3, .int x3)] [] := by
    intro f
    induction f with
    | zero =>
      intro I y2 x3 hn2 hk2 h
      rw [fn_CH_takeOut_19] at h
      cases h
    | succ f ih =>
      intro I y2 x3 hn2 hk2 h
      rw [fn_CH_takeOut_19] at h
      refine fx_iload_n (pc' := 20) hF d_CH_takeOut_19 rfl 2 rfl rfl ?_
      refine fx_aload_n (pc' := 21) hF d_CH_takeOut_20 rfl 0 rfl rfl ?_
      refine fx_geti (pc' := 24) hC hk0 (by decide) rfl iw_CH 2 (by decide) (by decide) rfl (hw _ wq_1_121) rfl d_CH_takeOut_21 rfl ?_
      refine fx_icmp_ge hF (tgt := 47) (pc' := 27) d_CH_takeOut_24 rfl rfl (fun q6 => ?_) (fun q6 => ?_)
      · rw [if_pos q6] at h
        refine fx_aload_n (pc' := 48) hF d_CH_takeOut_47 rfl 0 rfl rfl ?_
        refine fx_dup (pc' := 49) hF d_CH_takeOut_48 rfl rfl ?_
        refine fx_geti (pc' := 52) hC hk0 (by decide) rfl iw_CH 2 (by decide) (by decide) rfl (hw _ wq_1_121) rfl d_CH_takeOut_49 rfl ?_
        refine fx_iconst (pc' := 53) hF (v := (1 : Int32)) d_CH_takeOut_52 rfl rfl ?_
        refine fx_isub (pc' := 54) hF d_CH_takeOut_53 rfl ?_
        obtain ⟨I7, eI7, h⟩ := fw_let_some h
        refine fx_puti (pc' := 57) hC hk0 (by decide) rfl iw_CH 2 (by decide) (by decide) rfl ty_CH tyok_CH nn_CH rfl eI7 (tyok_CH 2 (by decide)) rfl rfl (hw _ wq_1_121) rfl d_CH_takeOut_54 rfl ?_
        refine fx_aload_n (pc' := 58) hF d_CH_takeOut_57 rfl 0 rfl rfl ?_
        obtain ⟨a8, na8, ea8, ka8, h⟩ := fw_ld_some h
        refine fx_getr (pc' := 61) hC hk0 (by decide) rfl iw_CH 0 (by decide) (by decide) rfl na8 ea8 (hw _ wq_1_118) rfl d_CH_takeOut_58 rfl ?_
        refine fx_aload_n (pc' := 62) hF d_CH_takeOut_61 rfl 0 rfl rfl ?_
        refine fx_geti (pc' := 65) hC hk0 (by decide) rfl iw_CH 2 (by decide) (by decide) rfl (hw _ wq_1_121) rfl d_CH_takeOut_62 rfl ?_
        refine fx_aload_n (pc' := 66) hF d_CH_takeOut_65 rfl 1 rfl rfl ?_
        obtain ⟨q9, h⟩ := fw_gd_some h
        obtain ⟨I10, eI10, h⟩ := fw_let_some h
        refine fx_aast24 (pc' := 67) hC ka8 q9 eI10 hk2 hn2 rfl d_CH_takeOut_66 rfl ?_
        refine fx_aload_n (pc' := 68) hF d_CH_takeOut_67 rfl 0 rfl rfl ?_
        obtain ⟨a11, na11, ea11, ka11, h⟩ := fw_ld_some h
        refine fx_getr (pc' := 71) hC hk0 (by decide) rfl iw_CH 1 (by decide) (by decide) rfl na11 ea11 (hw _ wq_1_120) rfl d_CH_takeOut_68 rfl ?_
        have hx := he I10 [(0, .ref (g k0)), (2, .ref (g y2.toNatClampNeg)), (3, .int x3)] (I10 k0 1) _ d_CH_takeOut_71 h
        rw [ea11] at hx
        exact hx
      · rw [if_neg q6] at h
        refine fx_aload_n (pc' := 28) hF d_CH_takeOut_27 rfl 0 rfl rfl ?_
        obtain ⟨a12, na12, ea12, ka12, h⟩ := fw_ld_some h
        refine fx_getr (pc' := 31) hC hk0 (by decide) rfl iw_CH 0 (by decide) (by decide) rfl na12 ea12 (hw _ wq_1_118) rfl d_CH_takeOut_28 rfl ?_
        refine fx_iload_n (pc' := 32) hF d_CH_takeOut_31 rfl 2 rfl rfl ?_
        refine fx_iconst (pc' := 33) hF (v := (1 : Int32)) d_CH_takeOut_32 rfl rfl ?_
        refine fx_isub (pc' := 34) hF d_CH_takeOut_33 rfl ?_
        refine fx_aload_n (pc' := 35) hF d_CH_takeOut_34 rfl 0 rfl rfl ?_
        obtain ⟨a13, na13, ea13, ka13, h⟩ := fw_ld_some h
        refine fx_getr (pc' := 38) hC hk0 (by decide) rfl iw_CH 0 (by decide) (by decide) rfl na13 ea13 (hw _ wq_1_118) rfl d_CH_takeOut_35 rfl ?_
        refine fx_iload_n (pc' := 39) hF d_CH_takeOut_38 rfl 2 rfl rfl ?_
        obtain ⟨q14, h⟩ := fw_gd_some h
        obtain ⟨a15, na15, ea15, ka15, h⟩ := fw_ld_some h
        refine fx_aald24 (pc' := 40) hC ka13 q14 na15 ea15 d_CH_takeOut_39 rfl ?_
        obtain ⟨q16, h⟩ := fw_gd_some h
        obtain ⟨I17, eI17, h⟩ := fw_let_some h
        refine fx_aast24 (pc' := 41) hC ka12 q16 eI17 ka15 na15 ea15 d_CH_takeOut_40 rfl ?_
        refine fx_iinc (pc' := 44) hF (v := x3 + 1) (lv' := [(3, .int (x3 + 1)), (0, .ref (g k0)), (2, .ref (g y2.toNatClampNeg))]) d_CH_takeOut_41 2 rfl rfl (by decide) rfl rfl ?_
        refine fx_goto hF (tgt := 19) d_CH_takeOut_44 rfl ?_
        refine fx_lv [1, 2, 0] rfl ?_
        exact ih I17 y2 (x3 + 1) hn2 hk2 h
  change fw_G p l e r_CH_takeOut s m args below meth c 0 0 Q 4 D aC A g n K I 0 [(0, .ref (g k0)), (1, .int x1)] []
  refine fx_aload_n (pc' := 1) hF d_CH_takeOut_0 rfl 0 rfl rfl ?_
  obtain ⟨a1, na1, ea1, ka1, h⟩ := fw_ld_some h
  refine fx_getr (pc' := 4) hC hk0 (by decide) rfl iw_CH 1 (by decide) (by decide) rfl na1 ea1 (hw _ wq_1_120) rfl d_CH_takeOut_1 rfl ?_
  refine fx_astore_n (pc' := 5) hF (lv' := [(2, .ref (g a1)), (0, .ref (g k0)), (1, .int x1)]) d_CH_takeOut_4 rfl (by decide) rfl rfl ?_
  refine fx_aload_n (pc' := 6) hF d_CH_takeOut_5 rfl 1 rfl rfl ?_
  refine fx_aload_n (pc' := 7) hF d_CH_takeOut_6 rfl 1 rfl rfl ?_
  obtain ⟨a2, na2, ea2, ka2, h⟩ := fw_ld_some h
  refine fx_getr (pc' := 10) hC hk0 (by decide) rfl iw_CH 0 (by decide) (by decide) rfl na2 ea2 (hw _ wq_1_118) rfl d_CH_takeOut_7 rfl ?_
  refine fx_iload_n (pc' := 11) hF d_CH_takeOut_10 rfl 2 rfl rfl ?_
  obtain ⟨q3, h⟩ := fw_gd_some h
  obtain ⟨a4, na4, ea4, ka4, h⟩ := fw_ld_some h
  refine fx_aald24 (pc' := 12) hC ka2 q3 na4 ea4 d_CH_takeOut_11 rfl ?_
  obtain ⟨I5, eI5, h⟩ := fw_let_some h
  refine fx_putr (pc' := 15) hC hk0 (by decide) rfl iw_CH 1 (by decide) (by decide) rfl na4 ea4 ty_CH tyok_CH nn_CH rfl eI5 (tyok_CH 1 (by decide)) rfl rfl (hw _ wq_1_120) rfl d_CH_takeOut_12 rfl ?_
  refine fx_iload_n (pc' := 16) hF d_CH_takeOut_15 rfl 2 rfl rfl ?_
  refine fx_iconst (pc' := 17) hF (v := (1 : Int32)) d_CH_takeOut_16 rfl rfl ?_
  refine fx_iadd (pc' := 18) hF d_CH_takeOut_17 rfl ?_
  refine fx_istore_n (pc' := 19) hF (lv' := [(3, .int (x1 + (1 : Int32))), (2, .ref (g a1)), (0, .ref (g k0)), (1, .int x1)]) d_CH_takeOut_18 rfl (by decide) rfl rfl ?_
  refine fx_lv [2, 1, 0] rfl ?_
  have hB := B19 200 I5 (I k0 1) (x1 + (1 : Int32)) na1 (by rw [ea1]; exact ka1) h
  rw [ea1] at hB
  exact hB
