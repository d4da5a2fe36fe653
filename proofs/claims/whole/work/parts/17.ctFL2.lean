set_option maxHeartbeats 4000000 in
set_option maxRecDepth 100000 in
theorem ct_FL_countSilent (l : Launch) (D : va_G) (aC : Nat → ClassId) (g : Nat → Nat) (n : Nat) (K : Nat → Nat × Nat) (I : Nat → Nat → Int32) (k0 : Nat) (x1 : Int32) (x2 : Int32) (Rr : Int32 × (Nat → Nat → Int32)) (hn : ∀ k, (K k).1 < 99 → k < n) (hk0 : (K k0).1 = 5) (h : fn_FL_countSilent K I k0 x1 x2 = some Rr) : fw_Mi l y_FL_countSilent w_FL_countSilent r_FL_countSilent D aC g n K I [.ref (g k0), .int x1, .int x2] Rr := by
  refine fw_ofGi (cc := b_FL_countSilent) (maxL := 5) (ws' := fw_ws) (by decide +kernel) hn (Nat.le_of_ble_eq_true rfl) rfl ?_
  intro p e s m args below meth c A Q hC hN hA he
  have hF := hC.1
  have hw : ∀ w ∈ fw_ws, w.before args s = true := fun w hw => hF.2.2.2.2 w (List.mem_cons_of_mem _ hw)
  unfold fn_FL_countSilent at h
  have B5 : ∀ (f : Nat) (I : Nat → Nat → Int32) (x1 : Int32) (x2 : Int32) (x3 : Int32) (x4 : Int32), fn_FL_countSilent_5 K f I k0 x1 x2 x3 x4 = some Rr → fw_G p l e r_FL_countSilent s m args below meth c 0 0 Q 5 D aC A g n K I 5 [(0, .ref (g k0)), (1, .int x1), (2, .int x2), (3, .int x3), (4, .int x4)] [] := by
    intro f
    induction f with
    | zero =>
      intro I x1 x2 x3 x4 h
      rw [fn_FL_countSilent_5] at h
      cases h
    | succ f ih =>
      intro I x1 x2 x3 x4 h
      rw [fn_FL_countSilent_5] at h
      refine fx_iload (pc' := 7) hF d_FL_countSilent_5 4 rfl rfl ?_
      refine fx_aload_n (pc' := 8) hF d_FL_countSilent_7 rfl 0 rfl rfl ?_
      refine fx_geti (pc' := 11) hC hk0 (by decide) rfl iw_FL 1 (by decide) (by decide) rfl (hw _ wq_1_194) rfl d_FL_countSilent_8 rfl ?_
      refine fx_icmp_ge hF (tgt := 37) (pc' := 14) d_FL_countSilent_11 rfl rfl (fun q1 => ?_) (fun q1 => ?_)
      · rw [if_pos q1] at h
        refine fx_iload_n (pc' := 38) hF d_FL_countSilent_37 rfl 3 rfl rfl ?_
        exact he I _ _ rfl _ d_FL_countSilent_38 h
      · rw [if_neg q1] at h
        refine fx_iload_n (pc' := 15) hF d_FL_countSilent_14 rfl 2 rfl rfl ?_
        refine fx_iconst (pc' := 16) hF (v := (1 : Int32)) d_FL_countSilent_15 rfl rfl ?_
        refine fx_aload_n (pc' := 17) hF d_FL_countSilent_16 rfl 0 rfl rfl ?_
        refine fx_iload_n (pc' := 18) hF d_FL_countSilent_17 rfl 1 rfl rfl ?_
        refine fx_iload (pc' := 20) hF d_FL_countSilent_18 4 rfl rfl ?_
        obtain ⟨r4, I2, c3, h⟩ := fw_bd_some h
        refine fx_callVi (pc' := 23) (As := [.int x1, .int x4]) (st := [.int (1 : Int32), .int x2]) hC hN hA hk0 (by decide) rfl (ct_FL_setMember l D aC g n K I k0 x1 x4 (r4, I2) hn hk0 c3) (cwV 2 hF.2.2.2.2 (fw_gV wq_2_10 wq_2_12 wsel_FL_setMember wq_1_1 wq_2_13) rfl rfl rfl ⟨rfl, by decide +kernel, by decide +kernel, by decide +kernel⟩ ⟨Nat.le_of_ble_eq_true rfl, Nat.le_of_ble_eq_true rfl⟩) ⟨Nat.zero_le _, Nat.zero_le _⟩ rfl rfl (Nat.le_of_ble_eq_true rfl) d_FL_countSilent_20 rfl ?_
        refine fx_ishl (pc' := 24) hF d_FL_countSilent_23 rfl ?_
        refine fx_iand (pc' := 25) hF d_FL_countSilent_24 rfl ?_
        refine fx_if_ne hF (tgt := 31) (pc' := 28) d_FL_countSilent_25 rfl rfl (fun q5 => ?_) (fun q5 => ?_)
        · rw [if_neg q5] at h
          refine fx_iinc (pc' := 34) hF (v := x4 + 1) (lv' := [(4, .int (x4 + 1)), (0, .ref (g k0)), (1, .int x1), (2, .int x2), (3, .int x3)]) d_FL_countSilent_31 4 rfl rfl (by decide) rfl rfl ?_
          refine fx_goto hF (tgt := 5) d_FL_countSilent_34 rfl ?_
          refine fx_lv [1, 2, 3, 4, 0] rfl ?_
          exact ih I2 x1 x2 x3 (x4 + 1) h
        · rw [if_pos q5] at h
          refine fx_iinc (pc' := 31) hF (v := x3 + 1) (lv' := [(3, .int (x3 + 1)), (0, .ref (g k0)), (1, .int x1), (2, .int x2), (4, .int x4)]) d_FL_countSilent_28 3 rfl rfl (by decide) rfl rfl ?_
          refine fx_iinc (pc' := 34) hF (v := x4 + 1) (lv' := [(4, .int (x4 + 1)), (3, .int (x3 + 1)), (0, .ref (g k0)), (1, .int x1), (2, .int x2)]) d_FL_countSilent_31 4 rfl rfl (by decide) rfl rfl ?_
          refine fx_goto hF (tgt := 5) d_FL_countSilent_34 rfl ?_
          refine fx_lv [2, 3, 4, 1, 0] rfl ?_
          exact ih I2 x1 x2 (x3 + 1) (x4 + 1) h
  change fw_G p l e r_FL_countSilent s m args below meth c 0 0 Q 5 D aC A g n K I 0 [(0, .ref (g k0)), (1, .int x1), (2, .int x2)] []
  refine fx_iconst (pc' := 1) hF (v := (0 : Int32)) d_FL_countSilent_0 rfl rfl ?_
  refine fx_istore_n (pc' := 2) hF (lv' := [(3, .int (0 : Int32)), (0, .ref (g k0)), (1, .int x1), (2, .int x2)]) d_FL_countSilent_1 rfl (by decide) rfl rfl ?_
  refine fx_iconst (pc' := 3) hF (v := (0 : Int32)) d_FL_countSilent_2 rfl rfl ?_
  refine fx_istore (pc' := 5) hF (lv' := [(4, .int (0 : Int32)), (3, .int (0 : Int32)), (0, .ref (g k0)), (1, .int x1), (2, .int x2)]) d_FL_countSilent_3 (by decide) rfl rfl ?_
  refine fx_lv [2, 3, 4, 1, 0] rfl ?_
  exact B5 200 I x1 x2 (0 : Int32) (0 : Int32) h
set_option maxHeartbeats 4000000 in
set_option maxRecDepth 100000 in
theorem ct_FL_isWriterFencedOut (l : Launch) (D : va_G) (aC : Nat → ClassId) (g : Nat → Nat) (n : Nat) (K : Nat → Nat × Nat) (I : Nat → Nat → Int32) (k0 : Nat) (x1 : Int32) (Rr : Int32 × (Nat → Nat → Int32)) (hn : ∀ k, (K k).1 < 99 → k < n) (hk0 : (K k0).1 = 5) (h : fn_FL_isWriterFencedOut K I k0 x1 = some Rr) : fw_Mi l y_FL_isWriterFencedOut w_FL_isWriterFencedOut r_FL_isWriterFencedOut D aC g n K I [.ref (g k0), .int x1] Rr := by
  refine fw_ofGi (cc := b_FL_isWriterFencedOut) (maxL := 3) (ws' := fw_ws) (by decide +kernel) hn (Nat.le_of_ble_eq_true rfl) rfl ?_
  intro p e s m args below meth c A Q hC hN hA he
  have hF := hC.1
  have hw : ∀ w ∈ fw_ws, w.before args s = true := fun w hw => hF.2.2.2.2 w (List.mem_cons_of_mem _ hw)
  unfold fn_FL_isWriterFencedOut at h
  have B2 : ∀ (f : Nat) (I : Nat → Nat → Int32) (x1 : Int32) (x2 : Int32), fn_FL_isWriterFencedOut_2 K f I k0 x1 x2 = some Rr → fw_G p l e r_FL_isWriterFencedOut s m args below meth c 0 0 Q 3 D aC A g n K I 2 [(0, .ref (g k0)), (1, .int x1), (2, .int x2)] [] := by
    intro f
    induction f with
    | zero =>
      intro I x1 x2 h
      rw [fn_FL_isWriterFencedOut_2] at h
      cases h
    | succ f ih =>
      intro I x1 x2 h
      rw [fn_FL_isWriterFencedOut_2] at h
      refine fx_iload_n (pc' := 3) hF d_FL_isWriterFencedOut_2 rfl 2 rfl rfl ?_
      refine fx_aload_n (pc' := 4) hF d_FL_isWriterFencedOut_3 rfl 0 rfl rfl ?_
      refine fx_geti (pc' := 7) hC hk0 (by decide) rfl iw_FL 0 (by decide) (by decide) rfl (hw _ wq_1_193) rfl d_FL_isWriterFencedOut_4 rfl ?_
      refine fx_icmp_ge hF (tgt := 31) (pc' := 10) d_FL_isWriterFencedOut_7 rfl rfl (fun q1 => ?_) (fun q1 => ?_)
      · rw [if_pos q1] at h
        refine fx_iconst (pc' := 32) hF (v := (1 : Int32)) d_FL_isWriterFencedOut_31 rfl rfl ?_
        exact he I _ _ rfl _ d_FL_isWriterFencedOut_32 h
      · rw [if_neg q1] at h
        refine fx_aload_n (pc' := 11) hF d_FL_isWriterFencedOut_10 rfl 0 rfl rfl ?_
        refine fx_iload_n (pc' := 12) hF d_FL_isWriterFencedOut_11 rfl 2 rfl rfl ?_
        refine fx_iload_n (pc' := 13) hF d_FL_isWriterFencedOut_12 rfl 1 rfl rfl ?_
        obtain ⟨r4, I2, c3, h⟩ := fw_bd_some h
        refine fx_callVi (pc' := 16) (As := [.int x2, .int x1]) (st := []) hC hN hA hk0 (by decide) rfl (ct_FL_countSilent l D aC g n K I k0 x2 x1 (r4, I2) hn hk0 c3) (cwV 2 hF.2.2.2.2 (fw_gV wq_2_140 wq_2_142 wsel_FL_countSilent wq_1_1 wq_2_143) rfl rfl rfl ⟨rfl, by decide +kernel, by decide +kernel, by decide +kernel⟩ ⟨Nat.le_of_ble_eq_true rfl, Nat.le_of_ble_eq_true rfl⟩) ⟨Nat.zero_le _, Nat.zero_le _⟩ rfl rfl (Nat.le_of_ble_eq_true rfl) d_FL_isWriterFencedOut_13 rfl ?_
        refine fx_aload_n (pc' := 17) hF d_FL_isWriterFencedOut_16 rfl 0 rfl rfl ?_
        refine fx_geti (pc' := 20) hC hk0 (by decide) rfl iw_FL 2 (by decide) (by decide) rfl (hw _ wq_1_195) rfl d_FL_isWriterFencedOut_17 rfl ?_
        refine fx_icmp_lt hF (tgt := 25) (pc' := 23) d_FL_isWriterFencedOut_20 rfl rfl (fun q5 => ?_) (fun q5 => ?_)
        · rw [if_pos q5] at h
          refine fx_iinc (pc' := 28) hF (v := x2 + 1) (lv' := [(2, .int (x2 + 1)), (0, .ref (g k0)), (1, .int x1)]) d_FL_isWriterFencedOut_25 2 rfl rfl (by decide) rfl rfl ?_
          refine fx_goto hF (tgt := 2) d_FL_isWriterFencedOut_28 rfl ?_
          refine fx_lv [1, 2, 0] rfl ?_
          exact ih I2 x1 (x2 + 1) h
        · rw [if_neg q5] at h
          refine fx_iconst (pc' := 24) hF (v := (0 : Int32)) d_FL_isWriterFencedOut_23 rfl rfl ?_
          exact he I2 _ _ rfl _ d_FL_isWriterFencedOut_24 h
  change fw_G p l e r_FL_isWriterFencedOut s m args below meth c 0 0 Q 3 D aC A g n K I 0 [(0, .ref (g k0)), (1, .int x1)] []
  refine fx_iconst (pc' := 1) hF (v := (0 : Int32)) d_FL_isWriterFencedOut_0 rfl rfl ?_
  refine fx_istore_n (pc' := 2) hF (lv' := [(2, .int (0 : Int32)), (0, .ref (g k0)), (1, .int x1)]) d_FL_isWriterFencedOut_1 rfl (by decide) rfl rfl ?_
  refine fx_lv [1, 2, 0] rfl ?_
  exact B2 200 I x1 (0 : Int32) h
set_option maxHeartbeats 4000000 in
set_option maxRecDepth 100000 in
theorem ct_FL_hearFenced (l : Launch) (D : va_G) (aC : Nat → ClassId) (g : Nat → Nat) (n : Nat) (K : Nat → Nat × Nat) (I : Nat → Nat → Int32) (k0 : Nat) (k1 : Nat) (k2 : Nat) (Rr : Nat → Nat → Int32) (hn : ∀ k, (K k).1 < 99 → k < n) (hk0 : (K k0).1 = 5) (hk1 : (K k1).1 = 2) (hk2 : (K k2).1 = 1) (h : fn_FL_hearFenced K I k0 k1 k2 = some Rr) : fw_Mv l y_FL_hearFenced w_FL_hearFenced r_FL_hearFenced D aC g n K I [.ref (g k0), .ref (g k1), .ref (g k2)] Rr := by
  refine fw_ofGv (cc := b_FL_hearFenced) (maxL := 3) (ws' := fw_ws) (by decide +kernel) hn (Nat.le_of_ble_eq_true rfl) rfl ?_
  intro p e s m args below meth c A Q hC hN hA he
  have hF := hC.1
  have hw : ∀ w ∈ fw_ws, w.before args s = true := fun w hw => hF.2.2.2.2 w (List.mem_cons_of_mem _ hw)
  unfold fn_FL_hearFenced at h
  change fw_G p l e r_FL_hearFenced s m args below meth c 0 0 Q 3 D aC A g n K I 0 [(0, .ref (g k0)), (1, .ref (g k1)), (2, .ref (g k2))] []
  refine fx_aload_n (pc' := 1) hF d_FL_hearFenced_0 rfl 1 rfl rfl ?_
  refine fx_aload_n (pc' := 2) hF d_FL_hearFenced_1 rfl 2 rfl rfl ?_
  refine fx_getiN (pc' := 5) hC hk2 (by decide) rfl iw_MS 2 (by decide) (by decide) rfl (va_Nw.use rfl (hN.1 _ wn_1_89)) rfl d_FL_hearFenced_2 rfl ?_
  obtain ⟨I1, c2, h⟩ := fw_bv_some h
  refine fx_callVNv (pc' := 8) (As := [.int (I k2 2)]) (st := []) hC hN hA hk1 (by decide) rfl (ct_RC_noteAnswer l D aC g n K I k1 (I k2 2) I1 hn hk1 c2) ⟨va_cnB 1 hF.2.2.2.2 (fw_gN wq_2_135) rfl rfl rfl (hN.1 _ wn_2_132) (hw _ wq_1_7) ⟨by decide +kernel, by decide +kernel, by decide +kernel⟩ ⟨Nat.le_of_ble_eq_true rfl, Nat.le_of_ble_eq_true rfl⟩, hw _ wq_2_134, hw _ wsel_RC_noteAnswer⟩ ⟨Nat.zero_le _, Nat.zero_le _⟩ rfl rfl (Nat.le_of_ble_eq_true rfl) d_FL_hearFenced_5 rfl ?_
  refine fx_aload_n (pc' := 9) hF d_FL_hearFenced_8 rfl 1 rfl rfl ?_
  refine fx_aload_n (pc' := 10) hF d_FL_hearFenced_9 rfl 1 rfl rfl ?_
  refine fx_getiN (pc' := 13) hC hk1 (by decide) rfl iw_RC 5 (by decide) (by decide) rfl (va_Nw.use rfl (hN.1 _ wn_1_175)) rfl d_FL_hearFenced_10 rfl ?_
  refine fx_aload_n (pc' := 14) hF d_FL_hearFenced_13 rfl 2 rfl rfl ?_
  refine fx_getiN (pc' := 17) hC hk2 (by decide) rfl iw_MS 4 (by decide) (by decide) rfl (va_Nw.use rfl (hN.1 _ wn_1_96)) rfl d_FL_hearFenced_14 rfl ?_
  refine fx_mmax (pc' := 20) hF (hw _ wq_1_30) (hw _ wq_1_31) (hw _ wq_1_2) (hw _ wq_1_32) (Nat.le_of_ble_eq_true rfl) (Nat.le_of_ble_eq_true rfl) ⟨Nat.zero_le _, Nat.zero_le _⟩ d_FL_hearFenced_17 rfl ?_
  obtain ⟨I3, eI3, h⟩ := fw_let_some h
  refine fx_putiN (pc' := 23) hC hk1 (by decide) rfl iw_RC 5 (by decide) (by decide) rfl ty_RC tyok_RC nn_RC rfl eI3 (tyok_RC 5 (by decide)) rfl rfl (va_Nw.use rfl (hN.1 _ wn_1_175)) rfl d_FL_hearFenced_20 rfl ?_
  refine fx_aload_n (pc' := 24) hF d_FL_hearFenced_23 rfl 0 rfl rfl ?_
  refine fx_aload_n (pc' := 25) hF d_FL_hearFenced_24 rfl 1 rfl rfl ?_
  refine fx_getiN (pc' := 28) hC hk1 (by decide) rfl iw_RC 4 (by decide) (by decide) rfl (va_Nw.use rfl (hN.1 _ wn_1_173)) rfl d_FL_hearFenced_25 rfl ?_
  obtain ⟨r6, I4, c5, h⟩ := fw_bd_some h
  refine fx_callVi (pc' := 31) (As := [.int (I3 k1 4)]) (st := []) hC hN hA hk0 (by decide) rfl (ct_FL_isWriterFencedOut l D aC g n K I3 k0 (I3 k1 4) (r6, I4) hn hk0 c5) (cwV 1 hF.2.2.2.2 (fw_gV wq_2_136 wq_2_138 wsel_FL_isWriterFencedOut wq_1_1 wq_2_139) rfl rfl rfl ⟨rfl, by decide +kernel, by decide +kernel, by decide +kernel⟩ ⟨Nat.le_of_ble_eq_true rfl, Nat.le_of_ble_eq_true rfl⟩) ⟨Nat.zero_le _, Nat.zero_le _⟩ rfl rfl (Nat.le_of_ble_eq_true rfl) d_FL_hearFenced_28 rfl ?_
  refine fx_if_eq hF (tgt := 45) (pc' := 34) d_FL_hearFenced_31 rfl rfl (fun q7 => ?_) (fun q7 => ?_)
  · rw [if_pos q7] at h
    exact he I4 _ _ d_FL_hearFenced_45 h
  · rw [if_neg q7] at h
    refine fx_aload_n (pc' := 35) hF d_FL_hearFenced_34 rfl 0 rfl rfl ?_
    refine fx_aload_n (pc' := 36) hF d_FL_hearFenced_35 rfl 1 rfl rfl ?_
    refine fx_aload_n (pc' := 37) hF d_FL_hearFenced_36 rfl 1 rfl rfl ?_
    refine fx_getiN (pc' := 40) hC hk1 (by decide) rfl iw_RC 5 (by decide) (by decide) rfl (va_Nw.use rfl (hN.1 _ wn_1_175)) rfl d_FL_hearFenced_37 rfl ?_
    refine fx_iconst (pc' := 41) hF (v := (1 : Int32)) d_FL_hearFenced_40 rfl rfl ?_
    refine fx_iadd (pc' := 42) hF d_FL_hearFenced_41 rfl ?_
    obtain ⟨I8, c9, h⟩ := fw_bv_some h
    refine fx_callVv (pc' := 45) (As := [.ref (g k1), .int ((I4 k1 5) + (1 : Int32))]) (st := []) hC hN hA hk0 (by decide) rfl (ct_FL_readOn l D aC g n K I4 k0 k1 ((I4 k1 5) + (1 : Int32)) I8 hn hk0 hk1 c9) (cwV 2 hF.2.2.2.2 (fw_gV wq_2_144 wq_2_146 wsel_FL_readOn wq_1_1 wq_2_147) rfl rfl rfl ⟨rfl, by decide +kernel, by decide +kernel, by decide +kernel⟩ ⟨Nat.le_of_ble_eq_true rfl, Nat.le_of_ble_eq_true rfl⟩) ⟨Nat.zero_le _, Nat.zero_le _⟩ rfl rfl (Nat.le_of_ble_eq_true rfl) d_FL_hearFenced_42 rfl ?_
    exact he I8 _ _ d_FL_hearFenced_45 h
set_option maxHeartbeats 4000000 in
set_option maxRecDepth 100000 in
theorem ct_FL_reachRecoverer (l : Launch) (D : va_G) (aC : Nat → ClassId) (g : Nat → Nat) (n : Nat) (K : Nat → Nat × Nat) (I : Nat → Nat → Int32) (k0 : Nat) (k1 : Nat) (Rr : Nat → Nat → Int32) (hn : ∀ k, (K k).1 < 99 → k < n) (hk0 : (K k0).1 = 5) (hk1 : (K k1).1 = 1) (h : fn_FL_reachRecoverer K I k0 k1 = some Rr) : fw_Mv l y_FL_reachRecoverer w_FL_reachRecoverer r_FL_reachRecoverer D aC g n K I [.ref (g k0), .ref (g k1)] Rr := by
  refine fw_ofGv (cc := b_FL_reachRecoverer) (maxL := 3) (ws' := fw_ws) (by decide +kernel) hn (Nat.le_of_ble_eq_true rfl) rfl ?_
  intro p e s m args below meth c A Q hC hN hA he
  have hF := hC.1
  have hw : ∀ w ∈ fw_ws, w.before args s = true := fun w hw => hF.2.2.2.2 w (List.mem_cons_of_mem _ hw)
  unfold fn_FL_reachRecoverer at h
  have B117 : ∀ (I : Nat → Nat → Int32) (k1 : Nat) (y2 : Int32) (hk1 : (K k1).1 = 1) (hn2 : ¬ y2 < 0) (hk2 : (K y2.toNatClampNeg).1 = 2), fn_FL_reachRecoverer_117 K I k0 k1 y2 = some Rr → fw_G p l e r_FL_reachRecoverer s m args below meth c 0 0 Q 3 D aC A g n K I 117 [(0, .ref (g k0)), (1, .ref (g k1)), (2, .ref (g y2.toNatClampNeg))] [] := by
    intro I k1 y2 hk1 hn2 hk2 h
    unfold fn_FL_reachRecoverer_117 at h
    refine fx_aload_n (pc' := 118) hF d_FL_reachRecoverer_117 rfl 1 rfl rfl ?_
    refine fx_getiN (pc' := 121) hC hk1 (by decide) rfl iw_MS 0 (by decide) (by decide) rfl (va_Nw.use rfl (hN.1 _ wn_1_82)) rfl d_FL_reachRecoverer_118 rfl ?_
    refine fx_iconst (pc' := 122) hF (v := (3 : Int32)) d_FL_reachRecoverer_121 rfl rfl ?_
    refine fx_icmp_ne hF (tgt := 143) (pc' := 125) d_FL_reachRecoverer_122 rfl rfl (fun q8 => ?_) (fun q8 => ?_)
    · rw [if_neg q8] at h
      exact he I _ _ d_FL_reachRecoverer_143 h
    · rw [if_pos q8] at h
      refine fx_aload_n (pc' := 126) hF d_FL_reachRecoverer_125 rfl 2 rfl rfl ?_
      refine fx_iconst (pc' := 127) hF (v := (3 : Int32)) d_FL_reachRecoverer_126 rfl rfl ?_
      refine fx_aload_n (pc' := 128) hF d_FL_reachRecoverer_127 rfl 1 rfl rfl ?_
      refine fx_getiN (pc' := 131) hC hk1 (by decide) rfl iw_MS 3 (by decide) (by decide) rfl (va_Nw.use rfl (hN.1 _ wn_1_93)) rfl d_FL_reachRecoverer_128 rfl ?_
      obtain ⟨r11, I9, c10, h⟩ := fw_bd_some h
      refine fx_callVNi (pc' := 134) (As := [.int (3 : Int32), .int (I k1 3)]) (st := []) hC hN hA hk2 (by decide) rfl (ct_RC_awaits l D aC g n K I y2.toNatClampNeg (3 : Int32) (I k1 3) (r11, I9) hn hk2 c10) ⟨va_cnB 2 hF.2.2.2.2 (fw_gN wq_2_159) rfl rfl rfl (hN.1 _ wn_2_156) (hw _ wq_1_7) ⟨by decide +kernel, by decide +kernel, by decide +kernel⟩ ⟨Nat.le_of_ble_eq_true rfl, Nat.le_of_ble_eq_true rfl⟩, hw _ wq_2_158, hw _ wsel_RC_awaits⟩ ⟨Nat.zero_le _, Nat.zero_le _⟩ rfl rfl (Nat.le_of_ble_eq_true rfl) d_FL_reachRecoverer_131 rfl ?_
      refine fx_if_eq hF (tgt := 143) (pc' := 137) d_FL_reachRecoverer_134 rfl rfl (fun q12 => ?_) (fun q12 => ?_)
      · rw [if_pos q12] at h
        exact he I9 _ _ d_FL_reachRecoverer_143 h
      · rw [if_neg q12] at h
        refine fx_aload_n (pc' := 138) hF d_FL_reachRecoverer_137 rfl 0 rfl rfl ?_
        refine fx_aload_n (pc' := 139) hF d_FL_reachRecoverer_138 rfl 2 rfl rfl ?_
        refine fx_aload_n (pc' := 140) hF d_FL_reachRecoverer_139 rfl 1 rfl rfl ?_
        obtain ⟨I13, c14, h⟩ := fw_bv_some h
        refine fx_callVv (pc' := 143) (As := [.ref (g y2.toNatClampNeg), .ref (g k1)]) (st := []) hC hN hA hk0 (by decide) rfl (ct_FL_hearAdded l D aC g n K I9 k0 y2.toNatClampNeg k1 I13 hn hk0 hk2 hk1 c14) (cwV 2 hF.2.2.2.2 (fw_gV wq_2_169 wq_2_171 wsel_FL_hearAdded wq_1_1 wq_2_172) rfl rfl rfl ⟨rfl, by decide +kernel, by decide +kernel, by decide +kernel⟩ ⟨Nat.le_of_ble_eq_true rfl, Nat.le_of_ble_eq_true rfl⟩) ⟨Nat.zero_le _, Nat.zero_le _⟩ rfl rfl (Nat.le_of_ble_eq_true rfl) d_FL_reachRecoverer_140 rfl ?_
        exact he I13 _ _ d_FL_reachRecoverer_143 h
  have B87 : ∀ (I : Nat → Nat → Int32) (k1 : Nat) (y2 : Int32) (hk1 : (K k1).1 = 1) (hn2 : ¬ y2 < 0) (hk2 : (K y2.toNatClampNeg).1 = 2), fn_FL_reachRecoverer_87 K I k0 k1 y2 = some Rr → fw_G p l e r_FL_reachRecoverer s m args below meth c 0 0 Q 3 D aC A g n K I 87 [(0, .ref (g k0)), (1, .ref (g k1)), (2, .ref (g y2.toNatClampNeg))] [] := by
    intro I k1 y2 hk1 hn2 hk2 h
    unfold fn_FL_reachRecoverer_87 at h
    refine fx_aload_n (pc' := 88) hF d_FL_reachRecoverer_87 rfl 1 rfl rfl ?_
    refine fx_getiN (pc' := 91) hC hk1 (by decide) rfl iw_MS 0 (by decide) (by decide) rfl (va_Nw.use rfl (hN.1 _ wn_1_82)) rfl d_FL_reachRecoverer_88 rfl ?_
    refine fx_bipush (pc' := 93) hF (v := (7 : Int32)) d_FL_reachRecoverer_91 rfl rfl ?_
    refine fx_icmp_ne hF (tgt := 117) (pc' := 96) d_FL_reachRecoverer_93 rfl rfl (fun q7 => ?_) (fun q7 => ?_)
    · rw [if_neg q7] at h
      exact B117 I k1 y2 hk1 hn2 hk2 h
    · rw [if_pos q7] at h
      refine fx_aload_n (pc' := 97) hF d_FL_reachRecoverer_96 rfl 2 rfl rfl ?_
      refine fx_iconst (pc' := 98) hF (v := (2 : Int32)) d_FL_reachRecoverer_97 rfl rfl ?_
      refine fx_aload_n (pc' := 99) hF d_FL_reachRecoverer_98 rfl 1 rfl rfl ?_
      refine fx_getiN (pc' := 102) hC hk1 (by decide) rfl iw_MS 3 (by decide) (by decide) rfl (va_Nw.use rfl (hN.1 _ wn_1_93)) rfl d_FL_reachRecoverer_99 rfl ?_
      obtain ⟨r17, I15, c16, h⟩ := fw_bd_some h
      refine fx_callVNi (pc' := 105) (As := [.int (2 : Int32), .int (I k1 3)]) (st := []) hC hN hA hk2 (by decide) rfl (ct_RC_awaits l D aC g n K I y2.toNatClampNeg (2 : Int32) (I k1 3) (r17, I15) hn hk2 c16) ⟨va_cnB 2 hF.2.2.2.2 (fw_gN wq_2_159) rfl rfl rfl (hN.1 _ wn_2_156) (hw _ wq_1_7) ⟨by decide +kernel, by decide +kernel, by decide +kernel⟩ ⟨Nat.le_of_ble_eq_true rfl, Nat.le_of_ble_eq_true rfl⟩, hw _ wq_2_158, hw _ wsel_RC_awaits⟩ ⟨Nat.zero_le _, Nat.zero_le _⟩ rfl rfl (Nat.le_of_ble_eq_true rfl) d_FL_reachRecoverer_102 rfl ?_
      refine fx_if_eq hF (tgt := 117) (pc' := 108) d_FL_reachRecoverer_105 rfl rfl (fun q18 => ?_) (fun q18 => ?_)
      · rw [if_pos q18] at h
        exact B117 I15 k1 y2 hk1 hn2 hk2 h
      · rw [if_neg q18] at h
        refine fx_aload_n (pc' := 109) hF d_FL_reachRecoverer_108 rfl 0 rfl rfl ?_
        refine fx_aload_n (pc' := 110) hF d_FL_reachRecoverer_109 rfl 2 rfl rfl ?_
        refine fx_aload_n (pc' := 111) hF d_FL_reachRecoverer_110 rfl 1 rfl rfl ?_
        obtain ⟨I19, c20, h⟩ := fw_bv_some h
        refine fx_callVv (pc' := 114) (As := [.ref (g y2.toNatClampNeg), .ref (g k1)]) (st := []) hC hN hA hk0 (by decide) rfl (ct_FL_hearMissing l D aC g n K I15 k0 y2.toNatClampNeg k1 I19 hn hk0 hk2 hk1 c20) (cwV 2 hF.2.2.2.2 (fw_gV wq_2_164 wq_2_166 wsel_FL_hearMissing wq_1_1 wq_2_167) rfl rfl rfl ⟨rfl, by decide +kernel, by decide +kernel, by decide +kernel⟩ ⟨Nat.le_of_ble_eq_true rfl, Nat.le_of_ble_eq_true rfl⟩) ⟨Nat.zero_le _, Nat.zero_le _⟩ rfl rfl (Nat.le_of_ble_eq_true rfl) d_FL_reachRecoverer_111 rfl ?_
        refine fx_goto hF (tgt := 143) d_FL_reachRecoverer_114 rfl ?_
        exact he I19 _ _ d_FL_reachRecoverer_143 h
  have B49 : ∀ (I : Nat → Nat → Int32) (k1 : Nat) (y2 : Int32) (hk1 : (K k1).1 = 1) (hn2 : ¬ y2 < 0) (hk2 : (K y2.toNatClampNeg).1 = 2), fn_FL_reachRecoverer_49 K I k0 k1 y2 = some Rr → fw_G p l e r_FL_reachRecoverer s m args below meth c 0 0 Q 3 D aC A g n K I 49 [(0, .ref (g k0)), (1, .ref (g k1)), (2, .ref (g y2.toNatClampNeg))] [] := by
    intro I k1 y2 hk1 hn2 hk2 h
    unfold fn_FL_reachRecoverer_49 at h
    refine fx_aload_n (pc' := 50) hF d_FL_reachRecoverer_49 rfl 1 rfl rfl ?_
    refine fx_getiN (pc' := 53) hC hk1 (by decide) rfl iw_MS 0 (by decide) (by decide) rfl (va_Nw.use rfl (hN.1 _ wn_1_82)) rfl d_FL_reachRecoverer_50 rfl ?_
    refine fx_bipush (pc' := 55) hF (v := (6 : Int32)) d_FL_reachRecoverer_53 rfl rfl ?_
    refine fx_icmp_ne hF (tgt := 87) (pc' := 58) d_FL_reachRecoverer_55 rfl rfl (fun q6 => ?_) (fun q6 => ?_)
    · rw [if_neg q6] at h
      exact B87 I k1 y2 hk1 hn2 hk2 h
    · rw [if_pos q6] at h
      refine fx_aload_n (pc' := 59) hF d_FL_reachRecoverer_58 rfl 2 rfl rfl ?_
      refine fx_iconst (pc' := 60) hF (v := (2 : Int32)) d_FL_reachRecoverer_59 rfl rfl ?_
      refine fx_aload_n (pc' := 61) hF d_FL_reachRecoverer_60 rfl 1 rfl rfl ?_
      refine fx_getiN (pc' := 64) hC hk1 (by decide) rfl iw_MS 3 (by decide) (by decide) rfl (va_Nw.use rfl (hN.1 _ wn_1_93)) rfl d_FL_reachRecoverer_61 rfl ?_
      obtain ⟨r23, I21, c22, h⟩ := fw_bd_some h
      refine fx_callVNi (pc' := 67) (As := [.int (2 : Int32), .int (I k1 3)]) (st := []) hC hN hA hk2 (by decide) rfl (ct_RC_awaits l D aC g n K I y2.toNatClampNeg (2 : Int32) (I k1 3) (r23, I21) hn hk2 c22) ⟨va_cnB 2 hF.2.2.2.2 (fw_gN wq_2_159) rfl rfl rfl (hN.1 _ wn_2_156) (hw _ wq_1_7) ⟨by decide +kernel, by decide +kernel, by decide +kernel⟩ ⟨Nat.le_of_ble_eq_true rfl, Nat.le_of_ble_eq_true rfl⟩, hw _ wq_2_158, hw _ wsel_RC_awaits⟩ ⟨Nat.zero_le _, Nat.zero_le _⟩ rfl rfl (Nat.le_of_ble_eq_true rfl) d_FL_reachRecoverer_64 rfl ?_
      refine fx_if_eq hF (tgt := 87) (pc' := 70) d_FL_reachRecoverer_67 rfl rfl (fun q24 => ?_) (fun q24 => ?_)
      · rw [if_pos q24] at h
        exact B87 I21 k1 y2 hk1 hn2 hk2 h
      · rw [if_neg q24] at h
        refine fx_aload_n (pc' := 71) hF d_FL_reachRecoverer_70 rfl 2 rfl rfl ?_
        refine fx_aload_n (pc' := 72) hF d_FL_reachRecoverer_71 rfl 1 rfl rfl ?_
        refine fx_getiN (pc' := 75) hC hk1 (by decide) rfl iw_MS 4 (by decide) (by decide) rfl (va_Nw.use rfl (hN.1 _ wn_1_96)) rfl d_FL_reachRecoverer_72 rfl ?_
        obtain ⟨I25, c26, h⟩ := fw_bv_some h
        refine fx_callVNv (pc' := 78) (As := [.int (I21 k1 4)]) (st := []) hC hN hA hk2 (by decide) rfl (ct_RC_beginWritingBack l D aC g n K I21 y2.toNatClampNeg (I21 k1 4) I25 hn hk2 c26) ⟨va_cnB 1 hF.2.2.2.2 (fw_gN wq_2_163) rfl rfl rfl (hN.1 _ wn_2_160) (hw _ wq_1_7) ⟨by decide +kernel, by decide +kernel, by decide +kernel⟩ ⟨Nat.le_of_ble_eq_true rfl, Nat.le_of_ble_eq_true rfl⟩, hw _ wq_2_162, hw _ wsel_RC_beginWritingBack⟩ ⟨Nat.zero_le _, Nat.zero_le _⟩ rfl rfl (Nat.le_of_ble_eq_true rfl) d_FL_reachRecoverer_75 rfl ?_
        refine fx_aload_n (pc' := 79) hF d_FL_reachRecoverer_78 rfl 0 rfl rfl ?_
        refine fx_aload_n (pc' := 80) hF d_FL_reachRecoverer_79 rfl 2 rfl rfl ?_
        obtain ⟨r29, I27, c28, h⟩ := fw_bd_some h
        refine fx_callVi (pc' := 83) (As := [.ref (g y2.toNatClampNeg)]) (st := []) hC hN hA hk0 (by decide) rfl (ct_FL_sendStep l D aC g n K I25 k0 y2.toNatClampNeg (r29, I27) hn hk0 hk2 c28) (cwV 1 hF.2.2.2.2 (fw_gV wq_2_49 wq_2_51 wsel_FL_sendStep wq_1_1 wq_2_52) rfl rfl rfl ⟨rfl, by decide +kernel, by decide +kernel, by decide +kernel⟩ ⟨Nat.le_of_ble_eq_true rfl, Nat.le_of_ble_eq_true rfl⟩) ⟨Nat.zero_le _, Nat.zero_le _⟩ rfl rfl (Nat.le_of_ble_eq_true rfl) d_FL_reachRecoverer_80 rfl ?_
        refine fx_pop (pc' := 84) hF d_FL_reachRecoverer_83 rfl rfl ?_
        refine fx_goto hF (tgt := 143) d_FL_reachRecoverer_84 rfl ?_
        exact he I27 _ _ d_FL_reachRecoverer_143 h
  change fw_G p l e r_FL_reachRecoverer s m args below meth c 0 0 Q 3 D aC A g n K I 0 [(0, .ref (g k0)), (1, .ref (g k1))] []
  refine fx_aload_n (pc' := 1) hF d_FL_reachRecoverer_0 rfl 0 rfl rfl ?_
  obtain ⟨a1, na1, ea1, ka1, h⟩ := fw_ld_some h
  refine fx_getr (pc' := 4) hC hk0 (by decide) rfl iw_FL 6 (by decide) (by decide) rfl na1 ea1 (hw _ wq_1_199) rfl d_FL_reachRecoverer_1 rfl ?_
  refine fx_aload_n (pc' := 5) hF d_FL_reachRecoverer_4 rfl 1 rfl rfl ?_
  refine fx_getiN (pc' := 8) hC hk1 (by decide) rfl iw_MS 1 (by decide) (by decide) rfl (va_Nw.use rfl (hN.1 _ wn_1_85)) rfl d_FL_reachRecoverer_5 rfl ?_
  refine fx_iconst (pc' := 9) hF (v := (1 : Int32)) d_FL_reachRecoverer_8 rfl rfl ?_
  refine fx_isub (pc' := 10) hF d_FL_reachRecoverer_9 rfl ?_
  obtain ⟨q2, h⟩ := fw_gd_some h
  obtain ⟨a3, na3, ea3, ka3, h⟩ := fw_ld_some h
  refine fx_aald25 (pc' := 11) hC ka1 q2 na3 ea3 d_FL_reachRecoverer_10 rfl ?_
  refine fx_astore_n (pc' := 12) hF (lv' := [(2, .ref (g a3)), (0, .ref (g k0)), (1, .ref (g k1))]) d_FL_reachRecoverer_11 rfl (by decide) rfl rfl ?_
  refine fx_aload_n (pc' := 13) hF d_FL_reachRecoverer_12 rfl 2 rfl rfl ?_
  refine fx_getiN (pc' := 16) hC hk1 (by decide) rfl iw_MS 5 (by decide) (by decide) rfl (va_Nw.use rfl (hN.1 _ wn_1_99)) rfl d_FL_reachRecoverer_13 rfl ?_
  refine fx_aload_n (pc' := 17) hF d_FL_reachRecoverer_16 rfl 0 rfl rfl ?_
  refine fx_getiN (pc' := 20) hC ka3 (by decide) rfl iw_RC 2 (by decide) (by decide) rfl (va_Nw.use rfl (hN.1 _ wn_1_169)) rfl d_FL_reachRecoverer_17 rfl ?_
  refine fx_icmp_eq hF (tgt := 24) (pc' := 23) d_FL_reachRecoverer_20 rfl rfl (fun q4 => ?_) (fun q4 => ?_)
  · rw [if_pos q4] at h
    refine fx_aload_n (pc' := 25) hF d_FL_reachRecoverer_24 rfl 2 rfl rfl ?_
    refine fx_getiN (pc' := 28) hC hk1 (by decide) rfl iw_MS 0 (by decide) (by decide) rfl (va_Nw.use rfl (hN.1 _ wn_1_82)) rfl d_FL_reachRecoverer_25 rfl ?_
    refine fx_iconst (pc' := 29) hF (v := (5 : Int32)) d_FL_reachRecoverer_28 rfl rfl ?_
    refine fx_icmp_ne hF (tgt := 49) (pc' := 32) d_FL_reachRecoverer_29 rfl rfl (fun q5 => ?_) (fun q5 => ?_)
    · rw [if_neg q5] at h
      refine fx_lv [1, 2, 0] rfl ?_
      have hB := B49 I k1 (I a1 ((I k1 1) - (1 : Int32)).toNatClampNeg) hk1 na3 (by rw [ea3]; exact ka3) h
      rw [ea3] at hB
      exact hB
    · rw [if_pos q5] at h
      refine fx_aload_n (pc' := 33) hF d_FL_reachRecoverer_32 rfl 0 rfl rfl ?_
      refine fx_getiN (pc' := 36) hC ka3 (by decide) rfl iw_RC 1 (by decide) (by decide) rfl (va_Nw.use rfl (hN.1 _ wn_1_167)) rfl d_FL_reachRecoverer_33 rfl ?_
      refine fx_iconst (pc' := 37) hF (v := (1 : Int32)) d_FL_reachRecoverer_36 rfl rfl ?_
      refine fx_icmp_ne hF (tgt := 49) (pc' := 40) d_FL_reachRecoverer_37 rfl rfl (fun q30 => ?_) (fun q30 => ?_)
      · rw [if_neg q30] at h
        refine fx_lv [1, 2, 0] rfl ?_
        have hB := B49 I k1 (I a1 ((I k1 1) - (1 : Int32)).toNatClampNeg) hk1 na3 (by rw [ea3]; exact ka3) h
        rw [ea3] at hB
        exact hB
      · rw [if_pos q30] at h
        refine fx_aload_n (pc' := 41) hF d_FL_reachRecoverer_40 rfl 1 rfl rfl ?_
        refine fx_aload_n (pc' := 42) hF d_FL_reachRecoverer_41 rfl 0 rfl rfl ?_
        refine fx_aload_n (pc' := 43) hF d_FL_reachRecoverer_42 rfl 2 rfl rfl ?_
        obtain ⟨I31, c32, h⟩ := fw_bv_some h
        refine fx_callVv (pc' := 46) (As := [.ref (g a3), .ref (g k1)]) (st := []) hC hN hA hk0 (by decide) rfl (ct_FL_hearFenced l D aC g n K I k0 a3 k1 I31 hn hk0 ka3 hk1 c32) (cwV 2 hF.2.2.2.2 (fw_gV wq_2_128 wq_2_130 wsel_FL_hearFenced wq_1_1 wq_2_131) rfl rfl rfl ⟨rfl, by decide +kernel, by decide +kernel, by decide +kernel⟩ ⟨Nat.le_of_ble_eq_true rfl, Nat.le_of_ble_eq_true rfl⟩) ⟨Nat.zero_le _, Nat.zero_le _⟩ rfl rfl (Nat.le_of_ble_eq_true rfl) d_FL_reachRecoverer_43 rfl ?_
        refine fx_goto hF (tgt := 143) d_FL_reachRecoverer_46 rfl ?_
        exact he I31 _ _ d_FL_reachRecoverer_143 h
  · rw [if_neg q4] at h
    exact he I _ _ d_FL_reachRecoverer_23 h
set_option maxHeartbeats 4000000 in
set_option maxRecDepth 100000 in
theorem ct_FL_sendAnswer (l : Launch) (D : va_G) (aC : Nat → ClassId) (g : Nat → Nat) (n : Nat) (K : Nat → Nat × Nat) (I : Nat → Nat → Int32) (k0 : Nat) (k1 : Nat) (x2 : Int32) (x3 : Int32) (Rr : Nat → Nat → Int32) (hn : ∀ k, (K k).1 < 99 → k < n) (hk0 : (K k0).1 = 5) (hk1 : (K k1).1 = 1) (h : fn_FL_sendAnswer K I k0 k1 x2 x3 = some Rr) : fw_Mv l y_FL_sendAnswer w_FL_sendAnswer r_FL_sendAnswer D aC g n K I [.ref (g k0), .ref (g k1), .int x2, .int x3] Rr := by
  refine fw_ofGv (cc := b_FL_sendAnswer) (maxL := 4) (ws' := fw_ws) (by decide +kernel) hn (Nat.le_of_ble_eq_true rfl) rfl ?_
  intro p e s m args below meth c A Q hC hN hA he
  have hF := hC.1
  have hw : ∀ w ∈ fw_ws, w.before args s = true := fun w hw => hF.2.2.2.2 w (List.mem_cons_of_mem _ hw)
  unfold fn_FL_sendAnswer at h
  change fw_G p l e r_FL_sendAnswer s m args below meth c 0 0 Q 4 D aC A g n K I 0 [(0, .ref (g k0)), (1, .ref (g k1)), (2, .int x2), (3, .int x3)] []
  refine fx_aload_n (pc' := 1) hF d_FL_sendAnswer_0 rfl 0 rfl rfl ?_
  obtain ⟨a1, na1, ea1, ka1, h⟩ := fw_ld_some h
  refine fx_getr (pc' := 4) hC hk0 (by decide) rfl iw_FL 4 (by decide) (by decide) rfl na1 ea1 (hw _ wq_1_197) rfl d_FL_sendAnswer_1 rfl ?_
  refine fx_iload_n (pc' := 5) hF d_FL_sendAnswer_4 rfl 2 rfl rfl ?_
  refine fx_aload_n (pc' := 6) hF d_FL_sendAnswer_5 rfl 1 rfl rfl ?_
  refine fx_getiN (pc' := 9) hC hk1 (by decide) rfl iw_MS 1 (by decide) (by decide) rfl (va_Nw.use rfl (hN.1 _ wn_1_85)) rfl d_FL_sendAnswer_6 rfl ?_
  refine fx_aload_n (pc' := 10) hF d_FL_sendAnswer_9 rfl 1 rfl rfl ?_
  refine fx_getiN (pc' := 13) hC hk1 (by decide) rfl iw_MS 2 (by decide) (by decide) rfl (va_Nw.use rfl (hN.1 _ wn_1_89)) rfl d_FL_sendAnswer_10 rfl ?_
  refine fx_aload_n (pc' := 14) hF d_FL_sendAnswer_13 rfl 1 rfl rfl ?_
  refine fx_getiN (pc' := 17) hC hk1 (by decide) rfl iw_MS 3 (by decide) (by decide) rfl (va_Nw.use rfl (hN.1 _ wn_1_93)) rfl d_FL_sendAnswer_14 rfl ?_
  refine fx_iload_n (pc' := 18) hF d_FL_sendAnswer_17 rfl 3 rfl rfl ?_
  refine fx_aload_n (pc' := 19) hF d_FL_sendAnswer_18 rfl 1 rfl rfl ?_
  refine fx_getiN (pc' := 22) hC hk1 (by decide) rfl iw_MS 5 (by decide) (by decide) rfl (va_Nw.use rfl (hN.1 _ wn_1_99)) rfl d_FL_sendAnswer_19 rfl ?_
  refine fx_iconst (pc' := 23) hF (v := (0 : Int32)) d_FL_sendAnswer_22 rfl rfl ?_
  obtain ⟨I2, c3, h⟩ := fw_bv_some h
  refine fx_callVNv (pc' := 26) (As := [.int x2, .int (I k1 1), .int (I k1 2), .int (I k1 3), .int x3, .int (I k1 5), .int (0 : Int32)]) (st := []) hC hN hA ka1 (by decide) rfl (ct_CH_send l D aC g n K I a1 x2 (I k1 1) (I k1 2) (I k1 3) x3 (I k1 5) (0 : Int32) I2 hn ka1 c3) ⟨va_cnB 7 hF.2.2.2.2 (fw_gN wq_2_17) rfl rfl rfl (hN.1 _ wn_2_14) (hw _ wq_1_4) ⟨by decide +kernel, by decide +kernel, by decide +kernel⟩ ⟨Nat.le_of_ble_eq_true rfl, Nat.le_of_ble_eq_true rfl⟩, hw _ wq_2_16, hw _ wsel_CH_send⟩ ⟨Nat.zero_le _, Nat.zero_le _⟩ rfl rfl (Nat.le_of_ble_eq_true rfl) d_FL_sendAnswer_23 rfl ?_
  exact he I2 _ _ d_FL_sendAnswer_26 h
set_option maxHeartbeats 4000000 in
set_option maxRecDepth 100000 in
theorem ct_FL_reachStoreWithAdd (l : Launch) (D : va_G) (aC : Nat → ClassId) (g : Nat → Nat) (n : Nat) (K : Nat → Nat × Nat) (I : Nat → Nat → Int32) (k0 : Nat) (k1 : Nat) (k2 : Nat) (Rr : Nat → Nat → Int32) (hn : ∀ k, (K k).1 < 99 → k < n) (hk0 : (K k0).1 = 5) (hk1 : (K k1).1 = 3) (hk2 : (K k2).1 = 1) (h : fn_FL_reachStoreWithAdd K I k0 k1 k2 = some Rr) : fw_Mv l y_FL_reachStoreWithAdd w_FL_reachStoreWithAdd r_FL_reachStoreWithAdd D aC g n K I [.ref (g k0), .ref (g k1), .ref (g k2)] Rr := by
  refine fw_ofGv (cc := b_FL_reachStoreWithAdd) (maxL := 3) (ws' := fw_ws) (by decide +kernel) hn (Nat.le_of_ble_eq_true rfl) rfl ?_
  intro p e s m args below meth c A Q hC hN hA he
  have hF := hC.1
  have hw : ∀ w ∈ fw_ws, w.before args s = true := fun w hw => hF.2.2.2.2 w (List.mem_cons_of_mem _ hw)
  unfold fn_FL_reachStoreWithAdd at h
  have B22 : ∀ (I : Nat → Nat → Int32) (k1 : Nat) (k2 : Nat) (hk1 : (K k1).1 = 3) (hk2 : (K k2).1 = 1), fn_FL_reachStoreWithAdd_22 K I k0 k1 k2 = some Rr → fw_G p l e r_FL_reachStoreWithAdd s m args below meth c 0 0 Q 3 D aC A g n K I 22 [(0, .ref (g k0)), (1, .ref (g k1)), (2, .ref (g k2))] [] := by
    intro I k1 k2 hk1 hk2 h
    unfold fn_FL_reachStoreWithAdd_22 at h
    refine fx_aload_n (pc' := 23) hF d_FL_reachStoreWithAdd_22 rfl 1 rfl rfl ?_
    refine fx_aload_n (pc' := 24) hF d_FL_reachStoreWithAdd_23 rfl 2 rfl rfl ?_
    refine fx_getiN (pc' := 27) hC hk2 (by decide) rfl iw_MS 3 (by decide) (by decide) rfl (va_Nw.use rfl (hN.1 _ wn_1_93)) rfl d_FL_reachStoreWithAdd_24 rfl ?_
    refine fx_aload_n (pc' := 28) hF d_FL_reachStoreWithAdd_27 rfl 2 rfl rfl ?_
    refine fx_getiN (pc' := 31) hC hk2 (by decide) rfl iw_MS 4 (by decide) (by decide) rfl (va_Nw.use rfl (hN.1 _ wn_1_96)) rfl d_FL_reachStoreWithAdd_28 rfl ?_
    refine fx_aload_n (pc' := 32) hF d_FL_reachStoreWithAdd_31 rfl 2 rfl rfl ?_
    refine fx_getiN (pc' := 35) hC hk2 (by decide) rfl iw_MS 6 (by decide) (by decide) rfl (va_Nw.use rfl (hN.1 _ wn_1_102)) rfl d_FL_reachStoreWithAdd_32 rfl ?_
    obtain ⟨I2, c3, h⟩ := fw_bv_some h
    refine fx_callVNv (pc' := 38) (As := [.int (I k2 3), .int (I k2 4), .int (I k2 6)]) (st := []) hC hN hA hk1 (by decide) rfl (ct_ST_keep l D aC g n K I k1 (I k2 3) (I k2 4) (I k2 6) I2 hn hk1 c3) ⟨va_cnB 3 hF.2.2.2.2 (fw_gN wq_2_113) rfl rfl rfl (hN.1 _ wn_2_110) (hw _ wq_1_3) ⟨by decide +kernel, by decide +kernel, by decide +kernel⟩ ⟨Nat.le_of_ble_eq_true rfl, Nat.le_of_ble_eq_true rfl⟩, hw _ wq_2_112, hw _ wsel_ST_keep⟩ ⟨Nat.zero_le _, Nat.zero_le _⟩ rfl rfl (Nat.le_of_ble_eq_true rfl) d_FL_reachStoreWithAdd_35 rfl ?_
    refine fx_aload_n (pc' := 39) hF d_FL_reachStoreWithAdd_38 rfl 0 rfl rfl ?_
    refine fx_aload_n (pc' := 40) hF d_FL_reachStoreWithAdd_39 rfl 2 rfl rfl ?_
    refine fx_iconst (pc' := 41) hF (v := (3 : Int32)) d_FL_reachStoreWithAdd_40 rfl rfl ?_
    refine fx_iconst (pc' := 42) hF (v := (0 : Int32)) d_FL_reachStoreWithAdd_41 rfl rfl ?_
    obtain ⟨I4, c5, h⟩ := fw_bv_some h
    refine fx_callVv (pc' := 45) (As := [.ref (g k2), .int (3 : Int32), .int (0 : Int32)]) (st := []) hC hN hA hk0 (by decide) rfl (ct_FL_sendAnswer l D aC g n K I2 k0 k2 (3 : Int32) (0 : Int32) I4 hn hk0 hk2 c5) (cwV 3 hF.2.2.2.2 (fw_gV wq_2_106 wq_2_108 wsel_FL_sendAnswer wq_1_1 wq_2_109) rfl rfl rfl ⟨rfl, by decide +kernel, by decide +kernel, by decide +kernel⟩ ⟨Nat.le_of_ble_eq_true rfl, Nat.le_of_ble_eq_true rfl⟩) ⟨Nat.zero_le _, Nat.zero_le _⟩ rfl rfl (Nat.le_of_ble_eq_true rfl) d_FL_reachStoreWithAdd_42 rfl ?_
    exact he I4 _ _ d_FL_reachStoreWithAdd_45 h
  change fw_G p l e r_FL_reachStoreWithAdd s m args below meth c 0 0 Q 3 D aC A g n K I 0 [(0, .ref (g k0)), (1, .ref (g k1)), (2, .ref (g k2))] []
  refine fx_aload_n (pc' := 1) hF d_FL_reachStoreWithAdd_0 rfl 2 rfl rfl ?_
  refine fx_getiN (pc' := 4) hC hk2 (by decide) rfl iw_MS 1 (by decide) (by decide) rfl (va_Nw.use rfl (hN.1 _ wn_1_85)) rfl d_FL_reachStoreWithAdd_1 rfl ?_
  refine fx_if_ne hF (tgt := 22) (pc' := 7) d_FL_reachStoreWithAdd_4 rfl rfl (fun q1 => ?_) (fun q1 => ?_)
  · rw [if_neg q1] at h
    exact B22 I k1 k2 hk1 hk2 h
  · rw [if_pos q1] at h
    refine fx_aload_n (pc' := 8) hF d_FL_reachStoreWithAdd_7 rfl 1 rfl rfl ?_
    refine fx_getiN (pc' := 11) hC hk1 (by decide) rfl iw_ST 3 (by decide) (by decide) rfl (va_Nw.use rfl (hN.1 _ wn_1_47)) rfl d_FL_reachStoreWithAdd_8 rfl ?_
    refine fx_if_eq hF (tgt := 22) (pc' := 14) d_FL_reachStoreWithAdd_11 rfl rfl (fun q6 => ?_) (fun q6 => ?_)
    · rw [if_pos q6] at h
      exact B22 I k1 k2 hk1 hk2 h
    · rw [if_neg q6] at h
      refine fx_aload_n (pc' := 15) hF d_FL_reachStoreWithAdd_14 rfl 0 rfl rfl ?_
      refine fx_aload_n (pc' := 16) hF d_FL_reachStoreWithAdd_15 rfl 2 rfl rfl ?_
      refine fx_iconst (pc' := 17) hF (v := (4 : Int32)) d_FL_reachStoreWithAdd_16 rfl rfl ?_
      refine fx_iconst (pc' := 18) hF (v := (0 : Int32)) d_FL_reachStoreWithAdd_17 rfl rfl ?_
      obtain ⟨I7, c8, h⟩ := fw_bv_some h
      refine fx_callVv (pc' := 21) (As := [.ref (g k2), .int (4 : Int32), .int (0 : Int32)]) (st := []) hC hN hA hk0 (by decide) rfl (ct_FL_sendAnswer l D aC g n K I k0 k2 (4 : Int32) (0 : Int32) I7 hn hk0 hk2 c8) (cwV 3 hF.2.2.2.2 (fw_gV wq_2_106 wq_2_108 wsel_FL_sendAnswer wq_1_1 wq_2_109) rfl rfl rfl ⟨rfl, by decide +kernel, by decide +kernel, by decide +kernel⟩ ⟨Nat.le_of_ble_eq_true rfl, Nat.le_of_ble_eq_true rfl⟩) ⟨Nat.zero_le _, Nat.zero_le _⟩ rfl rfl (Nat.le_of_ble_eq_true rfl) d_FL_reachStoreWithAdd_18 rfl ?_
      exact he I7 _ _ d_FL_reachStoreWithAdd_21 h
set_option maxHeartbeats 4000000 in
set_option maxRecDepth 100000 in
theorem ct_FL_reachStore (l : Launch) (D : va_G) (aC : Nat → ClassId) (g : Nat → Nat) (n : Nat) (K : Nat → Nat × Nat) (I : Nat → Nat → Int32) (k0 : Nat) (k1 : Nat) (Rr : Nat → Nat → Int32) (hn : ∀ k, (K k).1 < 99 → k < n) (hk0 : (K k0).1 = 5) (hk1 : (K k1).1 = 1) (h : fn_FL_reachStore K I k0 k1 = some Rr) : fw_Mv l y_FL_reachStore w_FL_reachStore r_FL_reachStore D aC g n K I [.ref (g k0), .ref (g k1)] Rr := by
  refine fw_ofGv (cc := b_FL_reachStore) (maxL := 3) (ws' := fw_ws) (by decide +kernel) hn (Nat.le_of_ble_eq_true rfl) rfl ?_
  intro p e s m args below meth c A Q hC hN hA he
  have hF := hC.1
  have hw : ∀ w ∈ fw_ws, w.before args s = true := fun w hw => hF.2.2.2.2 w (List.mem_cons_of_mem _ hw)
  unfold fn_FL_reachStore at h
  change fw_G p l e r_FL_reachStore s m args below meth c 0 0 Q 3 D aC A g n K I 0 [(0, .ref (g k0)), (1, .ref (g k1))] []
  refine fx_aload_n (pc' := 1) hF d_FL_reachStore_0 rfl 0 rfl rfl ?_
  obtain ⟨a1, na1, ea1, ka1, h⟩ := fw_ld_some h
  refine fx_getr (pc' := 4) hC hk0 (by decide) rfl iw_FL 3 (by decide) (by decide) rfl na1 ea1 (hw _ wq_1_196) rfl d_FL_reachStore_1 rfl ?_
  refine fx_aload_n (pc' := 5) hF d_FL_reachStore_4 rfl 1 rfl rfl ?_
  refine fx_getiN (pc' := 8) hC hk1 (by decide) rfl iw_MS 2 (by decide) (by decide) rfl (va_Nw.use rfl (hN.1 _ wn_1_89)) rfl d_FL_reachStore_5 rfl ?_
  obtain ⟨q2, h⟩ := fw_gd_some h
  obtain ⟨a3, na3, ea3, ka3, h⟩ := fw_ld_some h
  refine fx_aald23 (pc' := 9) hC ka1 q2 na3 ea3 d_FL_reachStore_8 rfl ?_
  refine fx_astore_n (pc' := 10) hF (lv' := [(2, .ref (g a3)), (0, .ref (g k0)), (1, .ref (g k1))]) d_FL_reachStore_9 rfl (by decide) rfl rfl ?_
  refine fx_aload_n (pc' := 11) hF d_FL_reachStore_10 rfl 0 rfl rfl ?_
  refine fx_getiN (pc' := 14) hC ka3 (by decide) rfl iw_ST 2 (by decide) (by decide) rfl (va_Nw.use rfl (hN.1 _ wn_1_45)) rfl d_FL_reachStore_11 rfl ?_
  refine fx_if_ne hF (tgt := 18) (pc' := 17) d_FL_reachStore_14 rfl rfl (fun q4 => ?_) (fun q4 => ?_)
  · rw [if_neg q4] at h
    refine fx_aload_n (pc' := 19) hF d_FL_reachStore_18 rfl 2 rfl rfl ?_
    refine fx_getiN (pc' := 22) hC hk1 (by decide) rfl iw_MS 0 (by decide) (by decide) rfl (va_Nw.use rfl (hN.1 _ wn_1_82)) rfl d_FL_reachStore_19 rfl ?_
    refine fx_if_ne hF (tgt := 32) (pc' := 25) d_FL_reachStore_22 rfl rfl (fun q5 => ?_) (fun q5 => ?_)
    · rw [if_neg q5] at h
      refine fx_aload_n (pc' := 33) hF d_FL_reachStore_32 rfl 0 rfl rfl ?_
      refine fx_iconst (pc' := 34) hF (v := (1 : Int32)) d_FL_reachStore_33 rfl rfl ?_
      obtain ⟨I6, eI6, h⟩ := fw_let_some h
      refine fx_putiN (pc' := 37) hC ka3 (by decide) rfl iw_ST 3 (by decide) (by decide) rfl ty_ST tyok_ST nn_ST rfl eI6 (tyok_ST 3 (by decide)) rfl rfl (va_Nw.use rfl (hN.1 _ wn_1_47)) rfl d_FL_reachStore_34 rfl ?_
      refine fx_aload_n (pc' := 38) hF d_FL_reachStore_37 rfl 2 rfl rfl ?_
      refine fx_getiN (pc' := 41) hC hk1 (by decide) rfl iw_MS 0 (by decide) (by decide) rfl (va_Nw.use rfl (hN.1 _ wn_1_82)) rfl d_FL_reachStore_38 rfl ?_
      refine fx_iconst (pc' := 42) hF (v := (1 : Int32)) d_FL_reachStore_41 rfl rfl ?_
      refine fx_icmp_ne hF (tgt := 58) (pc' := 45) d_FL_reachStore_42 rfl rfl (fun q7 => ?_) (fun q7 => ?_)
      · rw [if_neg q7] at h
        refine fx_aload_n (pc' := 59) hF d_FL_reachStore_58 rfl 0 rfl rfl ?_
        obtain ⟨a8, na8, ea8, ka8, h⟩ := fw_ld_some h
        refine fx_getrN (pc' := 62) hC ka3 (by decide) rfl iw_ST 0 (by decide) (by decide) rfl na8 ea8 (va_Nw.use rfl (hN.1 _ wn_1_41)) rfl d_FL_reachStore_59 rfl ?_
        refine fx_aload_n (pc' := 63) hF d_FL_reachStore_62 rfl 2 rfl rfl ?_
        refine fx_getiN (pc' := 66) hC hk1 (by decide) rfl iw_MS 3 (by decide) (by decide) rfl (va_Nw.use rfl (hN.1 _ wn_1_93)) rfl d_FL_reachStore_63 rfl ?_
        obtain ⟨q9, h⟩ := fw_gd_some h
        refine fx_zald (pc' := 67) hC ka8 q9 d_FL_reachStore_66 rfl ?_
        refine fx_if_eq hF (tgt := 89) (pc' := 70) d_FL_reachStore_67 rfl rfl (fun q10 => ?_) (fun q10 => ?_)
        · rw [if_pos q10] at h
          refine fx_aload_n (pc' := 90) hF d_FL_reachStore_89 rfl 1 rfl rfl ?_
          refine fx_aload_n (pc' := 91) hF d_FL_reachStore_90 rfl 2 rfl rfl ?_
          refine fx_bipush (pc' := 93) hF (v := (7 : Int32)) d_FL_reachStore_91 rfl rfl ?_
          refine fx_iconst (pc' := 94) hF (v := (0 : Int32)) d_FL_reachStore_93 rfl rfl ?_
          obtain ⟨I11, c12, h⟩ := fw_bv_some h
          refine fx_callVv (pc' := 97) (As := [.ref (g k1), .int (7 : Int32), .int (0 : Int32)]) (st := []) hC hN hA hk0 (by decide) rfl (ct_FL_sendAnswer l D aC g n K I6 k0 k1 (7 : Int32) (0 : Int32) I11 hn hk0 hk1 c12) (cwV 3 hF.2.2.2.2 (fw_gV wq_2_106 wq_2_108 wsel_FL_sendAnswer wq_1_1 wq_2_109) rfl rfl rfl ⟨rfl, by decide +kernel, by decide +kernel, by decide +kernel⟩ ⟨Nat.le_of_ble_eq_true rfl, Nat.le_of_ble_eq_true rfl⟩) ⟨Nat.zero_le _, Nat.zero_le _⟩ rfl rfl (Nat.le_of_ble_eq_true rfl) d_FL_reachStore_94 rfl ?_
          exact he I11 _ _ d_FL_reachStore_97 h
        · rw [if_neg q10] at h
          refine fx_aload_n (pc' := 71) hF d_FL_reachStore_70 rfl 1 rfl rfl ?_
          refine fx_aload_n (pc' := 72) hF d_FL_reachStore_71 rfl 2 rfl rfl ?_
          refine fx_bipush (pc' := 74) hF (v := (6 : Int32)) d_FL_reachStore_72 rfl rfl ?_
          refine fx_aload_n (pc' := 75) hF d_FL_reachStore_74 rfl 0 rfl rfl ?_
          obtain ⟨a13, na13, ea13, ka13, h⟩ := fw_ld_some h
          refine fx_getrN (pc' := 78) hC ka3 (by decide) rfl iw_ST 1 (by decide) (by decide) rfl na13 ea13 (va_Nw.use rfl (hN.1 _ wn_1_43)) rfl d_FL_reachStore_75 rfl ?_
          refine fx_aload_n (pc' := 79) hF d_FL_reachStore_78 rfl 2 rfl rfl ?_
          refine fx_getiN (pc' := 82) hC hk1 (by decide) rfl iw_MS 3 (by decide) (by decide) rfl (va_Nw.use rfl (hN.1 _ wn_1_93)) rfl d_FL_reachStore_79 rfl ?_
          obtain ⟨q14, h⟩ := fw_gd_some h
          refine fx_iald (pc' := 83) hC ka13 q14 d_FL_reachStore_82 rfl ?_
          obtain ⟨I15, c16, h⟩ := fw_bv_some h
          refine fx_callVv (pc' := 86) (As := [.ref (g k1), .int (6 : Int32), .int (I6 a13 (I6 k1 3).toNatClampNeg)]) (st := []) hC hN hA hk0 (by decide) rfl (ct_FL_sendAnswer l D aC g n K I6 k0 k1 (6 : Int32) (I6 a13 (I6 k1 3).toNatClampNeg) I15 hn hk0 hk1 c16) (cwV 3 hF.2.2.2.2 (fw_gV wq_2_106 wq_2_108 wsel_FL_sendAnswer wq_1_1 wq_2_109) rfl rfl rfl ⟨rfl, by decide +kernel, by decide +kernel, by decide +kernel⟩ ⟨Nat.le_of_ble_eq_true rfl, Nat.le_of_ble_eq_true rfl⟩) ⟨Nat.zero_le _, Nat.zero_le _⟩ rfl rfl (Nat.le_of_ble_eq_true rfl) d_FL_reachStore_83 rfl ?_
          refine fx_goto hF (tgt := 97) d_FL_reachStore_86 rfl ?_
          exact he I15 _ _ d_FL_reachStore_97 h
      · rw [if_pos q7] at h
        refine fx_aload_n (pc' := 46) hF d_FL_reachStore_45 rfl 1 rfl rfl ?_
        refine fx_aload_n (pc' := 47) hF d_FL_reachStore_46 rfl 2 rfl rfl ?_
        refine fx_iconst (pc' := 48) hF (v := (5 : Int32)) d_FL_reachStore_47 rfl rfl ?_
        refine fx_aload_n (pc' := 49) hF d_FL_reachStore_48 rfl 0 rfl rfl ?_
        refine fx_getiN (pc' := 52) hC ka3 (by decide) rfl iw_ST 4 (by decide) (by decide) rfl (va_Nw.use rfl (hN.1 _ wn_1_49)) rfl d_FL_reachStore_49 rfl ?_
        obtain ⟨I17, c18, h⟩ := fw_bv_some h
        refine fx_callVv (pc' := 55) (As := [.ref (g k1), .int (5 : Int32), .int (I6 a3 4)]) (st := []) hC hN hA hk0 (by decide) rfl (ct_FL_sendAnswer l D aC g n K I6 k0 k1 (5 : Int32) (I6 a3 4) I17 hn hk0 hk1 c18) (cwV 3 hF.2.2.2.2 (fw_gV wq_2_106 wq_2_108 wsel_FL_sendAnswer wq_1_1 wq_2_109) rfl rfl rfl ⟨rfl, by decide +kernel, by decide +kernel, by decide +kernel⟩ ⟨Nat.le_of_ble_eq_true rfl, Nat.le_of_ble_eq_true rfl⟩) ⟨Nat.zero_le _, Nat.zero_le _⟩ rfl rfl (Nat.le_of_ble_eq_true rfl) d_FL_reachStore_52 rfl ?_
        refine fx_goto hF (tgt := 97) d_FL_reachStore_55 rfl ?_
        exact he I17 _ _ d_FL_reachStore_97 h
    · rw [if_pos q5] at h
      refine fx_aload_n (pc' := 26) hF d_FL_reachStore_25 rfl 1 rfl rfl ?_
      refine fx_aload_n (pc' := 27) hF d_FL_reachStore_26 rfl 0 rfl rfl ?_
      refine fx_aload_n (pc' := 28) hF d_FL_reachStore_27 rfl 2 rfl rfl ?_
      obtain ⟨I19, c20, h⟩ := fw_bv_some h
      refine fx_callVv (pc' := 31) (As := [.ref (g a3), .ref (g k1)]) (st := []) hC hN hA hk0 (by decide) rfl (ct_FL_reachStoreWithAdd l D aC g n K I k0 a3 k1 I19 hn hk0 ka3 hk1 c20) (cwV 2 hF.2.2.2.2 (fw_gV wq_2_102 wq_2_104 wsel_FL_reachStoreWithAdd wq_1_1 wq_2_105) rfl rfl rfl ⟨rfl, by decide +kernel, by decide +kernel, by decide +kernel⟩ ⟨Nat.le_of_ble_eq_true rfl, Nat.le_of_ble_eq_true rfl⟩) ⟨Nat.zero_le _, Nat.zero_le _⟩ rfl rfl (Nat.le_of_ble_eq_true rfl) d_FL_reachStore_28 rfl ?_
      exact he I19 _ _ d_FL_reachStore_31 h
  · rw [if_pos q4] at h
    exact he I _ _ d_FL_reachStore_17 h
set_option maxHeartbeats 4000000 in
set_option maxRecDepth 100000 in
theorem ct_FL_deliver (l : Launch) (D : va_G) (aC : Nat → ClassId) (g : Nat → Nat) (n : Nat) (K : Nat → Nat × Nat) (I : Nat → Nat → Int32) (k0 : Nat) (x1 : Int32) (Rr : Int32 × (Nat → Nat → Int32)) (hn : ∀ k, (K k).1 < 99 → k < n) (hk0 : (K k0).1 = 5) (h : fn_FL_deliver K I k0 x1 = some Rr) : fw_Mi l y_FL_deliver w_FL_deliver r_FL_deliver D aC g n K I [.ref (g k0), .int x1] Rr := by
  refine fw_ofGi (cc := b_FL_deliver) (maxL := 3) (ws' := fw_ws) (by decide +kernel) hn (Nat.le_of_ble_eq_true rfl) rfl ?_
  intro p e s m args below meth c A Q hC hN hA he
  have hF := hC.1
  have hw : ∀ w ∈ fw_ws, w.before args s = true := fun w hw => hF.2.2.2.2 w (List.mem_cons_of_mem _ hw)
  unfold fn_FL_deliver at h
  change fw_G p l e r_FL_deliver s m args below meth c 0 0 Q 3 D aC A g n K I 0 [(0, .ref (g k0)), (1, .int x1)] []
  refine fx_aload_n (pc' := 1) hF d_FL_deliver_0 rfl 0 rfl rfl ?_
  obtain ⟨a1, na1, ea1, ka1, h⟩ := fw_ld_some h
  refine fx_getr (pc' := 4) hC hk0 (by decide) rfl iw_FL 4 (by decide) (by decide) rfl na1 ea1 (hw _ wq_1_197) rfl d_FL_deliver_1 rfl ?_
  refine fx_iload_n (pc' := 5) hF d_FL_deliver_4 rfl 1 rfl rfl ?_
  obtain ⟨r4, I2, c3, h⟩ := fw_bd_some h
  refine fx_callVNi (pc' := 8) (As := [.int x1]) (st := []) hC hN hA ka1 (by decide) rfl (ct_CH_holds l D aC g n K I a1 x1 (r4, I2) hn ka1 c3) ⟨va_cnB 1 hF.2.2.2.2 (fw_gN wq_2_89) rfl rfl rfl (hN.1 _ wn_2_86) (hw _ wq_1_4) ⟨by decide +kernel, by decide +kernel, by decide +kernel⟩ ⟨Nat.le_of_ble_eq_true rfl, Nat.le_of_ble_eq_true rfl⟩, hw _ wq_2_88, hw _ wsel_CH_holds⟩ ⟨Nat.zero_le _, Nat.zero_le _⟩ rfl rfl (Nat.le_of_ble_eq_true rfl) d_FL_deliver_5 rfl ?_
  refine fx_if_ne hF (tgt := 13) (pc' := 11) d_FL_deliver_8 rfl rfl (fun q5 => ?_) (fun q5 => ?_)
  · rw [if_neg q5] at h
    refine fx_aload_n (pc' := 14) hF d_FL_deliver_13 rfl 0 rfl rfl ?_
    obtain ⟨a6, na6, ea6, ka6, h⟩ := fw_ld_some h
    refine fx_getr (pc' := 17) hC hk0 (by decide) rfl iw_FL 4 (by decide) (by decide) rfl na6 ea6 (hw _ wq_1_197) rfl d_FL_deliver_14 rfl ?_
    refine fx_iload_n (pc' := 18) hF d_FL_deliver_17 rfl 1 rfl rfl ?_
    obtain ⟨r9, I7, c8, h⟩ := fw_bd_some h
    obtain ⟨a10, na10, ea10, ka10, h⟩ := fw_ld_some h
    refine fx_callVNr (pc' := 21) (As := [.int x1]) (st := []) hC hN hA ka6 (by decide) rfl ea10 (ct_CH_takeOut l D aC g n K I2 a6 x1 (r9, I7) hn ka6 c8) ⟨va_cnB 1 hF.2.2.2.2 (fw_gN wq_2_93) rfl rfl rfl (hN.1 _ wn_2_90) (hw _ wq_1_4) ⟨by decide +kernel, by decide +kernel, by decide +kernel⟩ ⟨Nat.le_of_ble_eq_true rfl, Nat.le_of_ble_eq_true rfl⟩, hw _ wq_2_92, hw _ wsel_CH_takeOut⟩ ⟨Nat.zero_le _, Nat.zero_le _⟩ rfl rfl (Nat.le_of_ble_eq_true rfl) d_FL_deliver_18 rfl ?_
    refine fx_astore_n (pc' := 22) hF (lv' := [(2, .ref (g a10)), (0, .ref (g k0)), (1, .int x1)]) d_FL_deliver_21 rfl (by decide) rfl rfl ?_
    refine fx_aload_n (pc' := 23) hF d_FL_deliver_22 rfl 0 rfl rfl ?_
    obtain ⟨r13, I11, c12, h⟩ := fw_bd_some h
    refine fx_callVNi (pc' := 26) (As := []) (st := []) hC hN hA ka10 (by decide) rfl (ct_MS_isToStore l D aC g n K I7 a10 (r13, I11) hn ka10 c12) ⟨va_cnB 0 hF.2.2.2.2 (fw_gN wq_2_97) rfl rfl rfl (hN.1 _ wn_2_94) (hw _ wq_1_5) ⟨by decide +kernel, by decide +kernel, by decide +kernel⟩ ⟨Nat.le_of_ble_eq_true rfl, Nat.le_of_ble_eq_true rfl⟩, hw _ wq_2_96, hw _ wsel_MS_isToStore⟩ ⟨Nat.zero_le _, Nat.zero_le _⟩ rfl rfl (Nat.le_of_ble_eq_true rfl) d_FL_deliver_23 rfl ?_
    refine fx_if_eq hF (tgt := 37) (pc' := 29) d_FL_deliver_26 rfl rfl (fun q14 => ?_) (fun q14 => ?_)
    · rw [if_pos q14] at h
      refine fx_aload_n (pc' := 38) hF d_FL_deliver_37 rfl 0 rfl rfl ?_
      refine fx_getiN (pc' := 41) hC ka10 (by decide) rfl iw_MS 1 (by decide) (by decide) rfl (va_Nw.use rfl (hN.1 _ wn_1_85)) rfl d_FL_deliver_38 rfl ?_
      refine fx_if_ne hF (tgt := 59) (pc' := 44) d_FL_deliver_41 rfl rfl (fun q15 => ?_) (fun q15 => ?_)
      · rw [if_neg q15] at h
        refine fx_aload_n (pc' := 60) hF d_FL_deliver_59 rfl 1 rfl rfl ?_
        refine fx_aload_n (pc' := 61) hF d_FL_deliver_60 rfl 0 rfl rfl ?_
        obtain ⟨I16, c17, h⟩ := fw_bv_some h
        refine fx_callVv (pc' := 64) (As := [.ref (g a10)]) (st := []) hC hN hA hk0 (by decide) rfl (ct_FL_reachRecoverer l D aC g n K I11 k0 a10 I16 hn hk0 ka10 c17) (cwV 1 hF.2.2.2.2 (fw_gV wq_2_124 wq_2_126 wsel_FL_reachRecoverer wq_1_1 wq_2_127) rfl rfl rfl ⟨rfl, by decide +kernel, by decide +kernel, by decide +kernel⟩ ⟨Nat.le_of_ble_eq_true rfl, Nat.le_of_ble_eq_true rfl⟩) ⟨Nat.zero_le _, Nat.zero_le _⟩ rfl rfl (Nat.le_of_ble_eq_true rfl) d_FL_deliver_61 rfl ?_
        refine fx_aload_n (pc' := 65) hF d_FL_deliver_64 rfl 0 rfl rfl ?_
        refine fx_getiN (pc' := 68) hC ka10 (by decide) rfl iw_MS 0 (by decide) (by decide) rfl (va_Nw.use rfl (hN.1 _ wn_1_82)) rfl d_FL_deliver_65 rfl ?_
        exact he I16 _ _ rfl _ d_FL_deliver_68 h
      · rw [if_pos q15] at h
        refine fx_aload_n (pc' := 45) hF d_FL_deliver_44 rfl 1 rfl rfl ?_
        obtain ⟨a18, na18, ea18, ka18, h⟩ := fw_ld_some h
        refine fx_getr (pc' := 48) hC hk0 (by decide) rfl iw_FL 5 (by decide) (by decide) rfl na18 ea18 (hw _ wq_1_198) rfl d_FL_deliver_45 rfl ?_
        refine fx_aload_n (pc' := 49) hF d_FL_deliver_48 rfl 0 rfl rfl ?_
        refine fx_aload_n (pc' := 50) hF d_FL_deliver_49 rfl 1 rfl rfl ?_
        refine fx_geti (pc' := 53) hC hk0 (by decide) rfl iw_FL 2 (by decide) (by decide) rfl (hw _ wq_1_195) rfl d_FL_deliver_50 rfl ?_
        obtain ⟨I19, c20, h⟩ := fw_bv_some h
        refine fx_callVNv (pc' := 56) (As := [.ref (g a10), .int (I11 k0 2)]) (st := []) hC hN hA ka18 (by decide) rfl (ct_WR_hear l D aC g n K I11 a18 a10 (I11 k0 2) I19 hn ka18 ka10 c20) ⟨va_cnB 2 hF.2.2.2.2 (fw_gN wq_2_118) rfl rfl rfl (hN.1 _ wn_2_115) (hw _ wq_1_6) ⟨by decide +kernel, by decide +kernel, by decide +kernel⟩ ⟨Nat.le_of_ble_eq_true rfl, Nat.le_of_ble_eq_true rfl⟩, hw _ wq_2_117, hw _ wsel_WR_hear⟩ ⟨Nat.zero_le _, Nat.zero_le _⟩ rfl rfl (Nat.le_of_ble_eq_true rfl) d_FL_deliver_53 rfl ?_
        refine fx_goto hF (tgt := 64) d_FL_deliver_56 rfl ?_
        refine fx_aload_n (pc' := 65) hF d_FL_deliver_64 rfl 0 rfl rfl ?_
        refine fx_getiN (pc' := 68) hC ka10 (by decide) rfl iw_MS 0 (by decide) (by decide) rfl (va_Nw.use rfl (hN.1 _ wn_1_82)) rfl d_FL_deliver_65 rfl ?_
        exact he I19 _ _ rfl _ d_FL_deliver_68 h
    · rw [if_neg q14] at h
      refine fx_aload_n (pc' := 30) hF d_FL_deliver_29 rfl 1 rfl rfl ?_
      refine fx_aload_n (pc' := 31) hF d_FL_deliver_30 rfl 0 rfl rfl ?_
      obtain ⟨I21, c22, h⟩ := fw_bv_some h
      refine fx_callVv (pc' := 34) (As := [.ref (g a10)]) (st := []) hC hN hA hk0 (by decide) rfl (ct_FL_reachStore l D aC g n K I11 k0 a10 I21 hn hk0 ka10 c22) (cwV 1 hF.2.2.2.2 (fw_gV wq_2_98 wq_2_100 wsel_FL_reachStore wq_1_1 wq_2_101) rfl rfl rfl ⟨rfl, by decide +kernel, by decide +kernel, by decide +kernel⟩ ⟨Nat.le_of_ble_eq_true rfl, Nat.le_of_ble_eq_true rfl⟩) ⟨Nat.zero_le _, Nat.zero_le _⟩ rfl rfl (Nat.le_of_ble_eq_true rfl) d_FL_deliver_31 rfl ?_
      refine fx_goto hF (tgt := 64) d_FL_deliver_34 rfl ?_
      refine fx_aload_n (pc' := 65) hF d_FL_deliver_64 rfl 0 rfl rfl ?_
      refine fx_getiN (pc' := 68) hC ka10 (by decide) rfl iw_MS 0 (by decide) (by decide) rfl (va_Nw.use rfl (hN.1 _ wn_1_82)) rfl d_FL_deliver_65 rfl ?_
      exact he I21 _ _ rfl _ d_FL_deliver_68 h
  · rw [if_pos q5] at h
    refine fx_iconst (pc' := 12) hF (v := (-1 : Int32)) d_FL_deliver_11 rfl rfl ?_
    exact he I2 _ _ rfl _ d_FL_deliver_12 h
set_option maxHeartbeats 4000000 in
set_option maxRecDepth 100000 in
theorem ct_FL_lose (l : Launch) (D : va_G) (aC : Nat → ClassId) (g : Nat → Nat) (n : Nat) (K : Nat → Nat × Nat) (I : Nat → Nat → Int32) (k0 : Nat) (x1 : Int32) (Rr : Int32 × (Nat → Nat → Int32)) (hn : ∀ k, (K k).1 < 99 → k < n) (hk0 : (K k0).1 = 5) (h : fn_FL_lose K I k0 x1 = some Rr) : fw_Mi l y_FL_lose w_FL_lose r_FL_lose D aC g n K I [.ref (g k0), .int x1] Rr := by
  refine fw_ofGi (cc := b_FL_lose) (maxL := 2) (ws' := fw_ws) (by decide +kernel) hn (Nat.le_of_ble_eq_true rfl) rfl ?_
  intro p e s m args below meth c A Q hC hN hA he
  have hF := hC.1
  have hw : ∀ w ∈ fw_ws, w.before args s = true := fun w hw => hF.2.2.2.2 w (List.mem_cons_of_mem _ hw)
  unfold fn_FL_lose at h
  change fw_G p l e r_FL_lose s m args below meth c 0 0 Q 2 D aC A g n K I 0 [(0, .ref (g k0)), (1, .int x1)] []
  refine fx_aload_n (pc' := 1) hF d_FL_lose_0 rfl 0 rfl rfl ?_
  obtain ⟨a1, na1, ea1, ka1, h⟩ := fw_ld_some h
  refine fx_getr (pc' := 4) hC hk0 (by decide) rfl iw_FL 4 (by decide) (by decide) rfl na1 ea1 (hw _ wq_1_197) rfl d_FL_lose_1 rfl ?_
  refine fx_iload_n (pc' := 5) hF d_FL_lose_4 rfl 1 rfl rfl ?_
  obtain ⟨r4, I2, c3, h⟩ := fw_bd_some h
  refine fx_callVNi (pc' := 8) (As := [.int x1]) (st := []) hC hN hA ka1 (by decide) rfl (ct_CH_holds l D aC g n K I a1 x1 (r4, I2) hn ka1 c3) ⟨va_cnB 1 hF.2.2.2.2 (fw_gN wq_2_89) rfl rfl rfl (hN.1 _ wn_2_86) (hw _ wq_1_4) ⟨by decide +kernel, by decide +kernel, by decide +kernel⟩ ⟨Nat.le_of_ble_eq_true rfl, Nat.le_of_ble_eq_true rfl⟩, hw _ wq_2_88, hw _ wsel_CH_holds⟩ ⟨Nat.zero_le _, Nat.zero_le _⟩ rfl rfl (Nat.le_of_ble_eq_true rfl) d_FL_lose_5 rfl ?_
  refine fx_if_ne hF (tgt := 13) (pc' := 11) d_FL_lose_8 rfl rfl (fun q5 => ?_) (fun q5 => ?_)
  · rw [if_neg q5] at h
    refine fx_aload_n (pc' := 14) hF d_FL_lose_13 rfl 0 rfl rfl ?_
    obtain ⟨a6, na6, ea6, ka6, h⟩ := fw_ld_some h
    refine fx_getr (pc' := 17) hC hk0 (by decide) rfl iw_FL 4 (by decide) (by decide) rfl na6 ea6 (hw _ wq_1_197) rfl d_FL_lose_14 rfl ?_
    refine fx_iload_n (pc' := 18) hF d_FL_lose_17 rfl 1 rfl rfl ?_
    obtain ⟨r9, I7, c8, h⟩ := fw_bd_some h
    obtain ⟨a10, na10, ea10, ka10, h⟩ := fw_ld_some h
    refine fx_callVNr (pc' := 21) (As := [.int x1]) (st := []) hC hN hA ka6 (by decide) rfl ea10 (ct_CH_takeOut l D aC g n K I2 a6 x1 (r9, I7) hn ka6 c8) ⟨va_cnB 1 hF.2.2.2.2 (fw_gN wq_2_93) rfl rfl rfl (hN.1 _ wn_2_90) (hw _ wq_1_4) ⟨by decide +kernel, by decide +kernel, by decide +kernel⟩ ⟨Nat.le_of_ble_eq_true rfl, Nat.le_of_ble_eq_true rfl⟩, hw _ wq_2_92, hw _ wsel_CH_takeOut⟩ ⟨Nat.zero_le _, Nat.zero_le _⟩ rfl rfl (Nat.le_of_ble_eq_true rfl) d_FL_lose_18 rfl ?_
    refine fx_pop (pc' := 22) hF d_FL_lose_21 rfl rfl ?_
    refine fx_iconst (pc' := 23) hF (v := (1 : Int32)) d_FL_lose_22 rfl rfl ?_
    exact he I7 _ _ rfl _ d_FL_lose_23 h
  · rw [if_pos q5] at h
    refine fx_iconst (pc' := 12) hF (v := (0 : Int32)) d_FL_lose_11 rfl rfl ?_
    exact he I2 _ _ rfl _ d_FL_lose_12 h
set_option maxHeartbeats 4000000 in
set_option maxRecDepth 100000 in
theorem ct_FL_flight (l : Launch) (D : va_G) (aC : Nat → ClassId) (g : Nat → Nat) (n : Nat) (K : Nat → Nat × Nat) (I : Nat → Nat → Int32) (k0 : Nat) (Rr : Int32 × (Nat → Nat → Int32)) (hn : ∀ k, (K k).1 < 99 → k < n) (hk0 : (K k0).1 = 5) (h : fn_FL_flight K I k0 = some Rr) : fw_Mi l y_FL_flight w_FL_flight r_FL_flight D aC g n K I [.ref (g k0)] Rr := by
  refine fw_ofGi (cc := b_FL_flight) (maxL := 1) (ws' := fw_ws) (by decide +kernel) hn (Nat.le_of_ble_eq_true rfl) rfl ?_
  intro p e s m args below meth c A Q hC hN hA he
  have hF := hC.1
  have hw : ∀ w ∈ fw_ws, w.before args s = true := fun w hw => hF.2.2.2.2 w (List.mem_cons_of_mem _ hw)
  unfold fn_FL_flight at h
  change fw_G p l e r_FL_flight s m args below meth c 0 0 Q 1 D aC A g n K I 0 [(0, .ref (g k0))] []
  refine fx_aload_n (pc' := 1) hF d_FL_flight_0 rfl 0 rfl rfl ?_
  obtain ⟨a1, na1, ea1, ka1, h⟩ := fw_ld_some h
  refine fx_getr (pc' := 4) hC hk0 (by decide) rfl iw_FL 4 (by decide) (by decide) rfl na1 ea1 (hw _ wq_1_197) rfl d_FL_flight_1 rfl ?_
  refine fx_getiN (pc' := 7) hC ka1 (by decide) rfl iw_CH 2 (by decide) (by decide) rfl (va_Nw.use rfl (hN.1 _ wn_1_122)) rfl d_FL_flight_4 rfl ?_
  exact he I _ _ rfl _ d_FL_flight_7 h
set_option maxHeartbeats 4000000 in
set_option maxRecDepth 100000 in
theorem ct_FL_message (l : Launch) (D : va_G) (aC : Nat → ClassId) (g : Nat → Nat) (n : Nat) (K : Nat → Nat × Nat) (I : Nat → Nat → Int32) (k0 : Nat) (x1 : Int32) (x2 : Int32) (Rr : Int32 × (Nat → Nat → Int32)) (hn : ∀ k, (K k).1 < 99 → k < n) (hk0 : (K k0).1 = 5) (h : fn_FL_message K I k0 x1 x2 = some Rr) : fw_Mi l y_FL_message w_FL_message r_FL_message D aC g n K I [.ref (g k0), .int x1, .int x2] Rr := by
  refine fw_ofGi (cc := b_FL_message) (maxL := 3) (ws' := fw_ws) (by decide +kernel) hn (Nat.le_of_ble_eq_true rfl) rfl ?_
  intro p e s m args below meth c A Q hC hN hA he
  have hF := hC.1
  have hw : ∀ w ∈ fw_ws, w.before args s = true := fun w hw => hF.2.2.2.2 w (List.mem_cons_of_mem _ hw)
  unfold fn_FL_message at h
  change fw_G p l e r_FL_message s m args below meth c 0 0 Q 3 D aC A g n K I 0 [(0, .ref (g k0)), (1, .int x1), (2, .int x2)] []
  refine fx_aload_n (pc' := 1) hF d_FL_message_0 rfl 0 rfl rfl ?_
  obtain ⟨a1, na1, ea1, ka1, h⟩ := fw_ld_some h
  refine fx_getr (pc' := 4) hC hk0 (by decide) rfl iw_FL 4 (by decide) (by decide) rfl na1 ea1 (hw _ wq_1_197) rfl d_FL_message_1 rfl ?_
  refine fx_iload_n (pc' := 5) hF d_FL_message_4 rfl 1 rfl rfl ?_
  obtain ⟨r4, I2, c3, h⟩ := fw_bd_some h
  refine fx_callVNi (pc' := 8) (As := [.int x1]) (st := []) hC hN hA ka1 (by decide) rfl (ct_CH_holds l D aC g n K I a1 x1 (r4, I2) hn ka1 c3) ⟨va_cnB 1 hF.2.2.2.2 (fw_gN wq_2_89) rfl rfl rfl (hN.1 _ wn_2_86) (hw _ wq_1_4) ⟨by decide +kernel, by decide +kernel, by decide +kernel⟩ ⟨Nat.le_of_ble_eq_true rfl, Nat.le_of_ble_eq_true rfl⟩, hw _ wq_2_88, hw _ wsel_CH_holds⟩ ⟨Nat.zero_le _, Nat.zero_le _⟩ rfl rfl (Nat.le_of_ble_eq_true rfl) d_FL_message_5 rfl ?_
  refine fx_if_ne hF (tgt := 13) (pc' := 11) d_FL_message_8 rfl rfl (fun q5 => ?_) (fun q5 => ?_)
  · rw [if_neg q5] at h
    refine fx_aload_n (pc' := 14) hF d_FL_message_13 rfl 0 rfl rfl ?_
    obtain ⟨a6, na6, ea6, ka6, h⟩ := fw_ld_some h
    refine fx_getr (pc' := 17) hC hk0 (by decide) rfl iw_FL 4 (by decide) (by decide) rfl na6 ea6 (hw _ wq_1_197) rfl d_FL_message_14 rfl ?_
    obtain ⟨a7, na7, ea7, ka7, h⟩ := fw_ld_some h
    refine fx_getrN (pc' := 20) hC ka6 (by decide) rfl iw_CH 0 (by decide) (by decide) rfl na7 ea7 (va_Nw.use rfl (hN.1 _ wn_1_119)) rfl d_FL_message_17 rfl ?_
    refine fx_iload_n (pc' := 21) hF d_FL_message_20 rfl 1 rfl rfl ?_
    obtain ⟨q8, h⟩ := fw_gd_some h
    obtain ⟨a9, na9, ea9, ka9, h⟩ := fw_ld_some h
    refine fx_aald24 (pc' := 22) hC ka7 q8 na9 ea9 d_FL_message_21 rfl ?_
    refine fx_iload_n (pc' := 23) hF d_FL_message_22 rfl 2 rfl rfl ?_
    obtain ⟨r12, I10, c11, h⟩ := fw_bd_some h
    refine fx_callVNi (pc' := 26) (As := [.int x2]) (st := []) hC hN hA ka9 (by decide) rfl (ct_MS_detail l D aC g n K I2 a9 x2 (r12, I10) hn ka9 c11) ⟨va_cnB 1 hF.2.2.2.2 (fw_gN wq_2_188) rfl rfl rfl (hN.1 _ wn_2_185) (hw _ wq_1_5) ⟨by decide +kernel, by decide +kernel, by decide +kernel⟩ ⟨Nat.le_of_ble_eq_true rfl, Nat.le_of_ble_eq_true rfl⟩, hw _ wq_2_187, hw _ wsel_MS_detail⟩ ⟨Nat.zero_le _, Nat.zero_le _⟩ rfl rfl (Nat.le_of_ble_eq_true rfl) d_FL_message_23 rfl ?_
    exact he I10 _ _ rfl _ d_FL_message_26 h
  · rw [if_pos q5] at h
    refine fx_iconst (pc' := 12) hF (v := (-1 : Int32)) d_FL_message_11 rfl rfl ?_
    exact he I2 _ _ rfl _ d_FL_message_12 h
set_option maxHeartbeats 4000000 in
set_option maxRecDepth 100000 in
theorem ct_FL_isStore (l : Launch) (D : va_G) (aC : Nat → ClassId) (g : Nat → Nat) (n : Nat) (K : Nat → Nat × Nat) (I : Nat → Nat → Int32) (k0 : Nat) (x1 : Int32) (Rr : Int32 × (Nat → Nat → Int32)) (hn : ∀ k, (K k).1 < 99 → k < n) (hk0 : (K k0).1 = 5) (h : fn_FL_isStore K I k0 x1 = some Rr) : fw_Mi l y_FL_isStore w_FL_isStore r_FL_isStore D aC g n K I [.ref (g k0), .int x1] Rr := by
  refine fw_ofGi (cc := b_FL_isStore) (maxL := 2) (ws' := fw_ws) (by decide +kernel) hn (Nat.le_of_ble_eq_true rfl) rfl ?_
  intro p e s m args below meth c A Q hC hN hA he
  have hF := hC.1
  have hw : ∀ w ∈ fw_ws, w.before args s = true := fun w hw => hF.2.2.2.2 w (List.mem_cons_of_mem _ hw)
  unfold fn_FL_isStore at h
  change fw_G p l e r_FL_isStore s m args below meth c 0 0 Q 2 D aC A g n K I 0 [(0, .ref (g k0)), (1, .int x1)] []
  refine fx_iload_n (pc' := 1) hF d_FL_isStore_0 rfl 1 rfl rfl ?_
  refine fx_if_lt hF (tgt := 16) (pc' := 4) d_FL_isStore_1 rfl rfl (fun q1 => ?_) (fun q1 => ?_)
  · rw [if_pos q1] at h
    refine fx_iconst (pc' := 17) hF (v := (0 : Int32)) d_FL_isStore_16 rfl rfl ?_
    exact he I _ _ rfl _ d_FL_isStore_17 h
  · rw [if_neg q1] at h
    refine fx_iload_n (pc' := 5) hF d_FL_isStore_4 rfl 1 rfl rfl ?_
    refine fx_aload_n (pc' := 6) hF d_FL_isStore_5 rfl 0 rfl rfl ?_
    refine fx_geti (pc' := 9) hC hk0 (by decide) rfl iw_FL 0 (by decide) (by decide) rfl (hw _ wq_1_193) rfl d_FL_isStore_6 rfl ?_
    refine fx_icmp_ge hF (tgt := 16) (pc' := 12) d_FL_isStore_9 rfl rfl (fun q2 => ?_) (fun q2 => ?_)
    · rw [if_pos q2] at h
      refine fx_iconst (pc' := 17) hF (v := (0 : Int32)) d_FL_isStore_16 rfl rfl ?_
      exact he I _ _ rfl _ d_FL_isStore_17 h
    · rw [if_neg q2] at h
      refine fx_iconst (pc' := 13) hF (v := (1 : Int32)) d_FL_isStore_12 rfl rfl ?_
      refine fx_goto hF (tgt := 17) d_FL_isStore_13 rfl ?_
      exact he I _ _ rfl _ d_FL_isStore_17 h
set_option maxHeartbeats 4000000 in
set_option maxRecDepth 100000 in
theorem ct_FL_power (l : Launch) (D : va_G) (aC : Nat → ClassId) (g : Nat → Nat) (n : Nat) (K : Nat → Nat × Nat) (I : Nat → Nat → Int32) (k0 : Nat) (x1 : Int32) (x2 : Int32) (Rr : Int32 × (Nat → Nat → Int32)) (hn : ∀ k, (K k).1 < 99 → k < n) (hk0 : (K k0).1 = 5) (h : fn_FL_power K I k0 x1 x2 = some Rr) : fw_Mi l y_FL_power w_FL_power r_FL_power D aC g n K I [.ref (g k0), .int x1, .int x2] Rr := by
  refine fw_ofGi (cc := b_FL_power) (maxL := 3) (ws' := fw_ws) (by decide +kernel) hn (Nat.le_of_ble_eq_true rfl) rfl ?_
  intro p e s m args below meth c A Q hC hN hA he
  have hF := hC.1
  have hw : ∀ w ∈ fw_ws, w.before args s = true := fun w hw => hF.2.2.2.2 w (List.mem_cons_of_mem _ hw)
  unfold fn_FL_power at h
  change fw_G p l e r_FL_power s m args below meth c 0 0 Q 3 D aC A g n K I 0 [(0, .ref (g k0)), (1, .int x1), (2, .int x2)] []
  refine fx_aload_n (pc' := 1) hF d_FL_power_0 rfl 0 rfl rfl ?_
  refine fx_iload_n (pc' := 2) hF d_FL_power_1 rfl 1 rfl rfl ?_
  obtain ⟨r3, I1, c2, h⟩ := fw_bd_some h
  refine fx_callVi (pc' := 5) (As := [.int x1]) (st := []) hC hN hA hk0 (by decide) rfl (ct_FL_isStore l D aC g n K I k0 x1 (r3, I1) hn hk0 c2) (cwV 1 hF.2.2.2.2 (fw_gV wq_2_193 wq_2_195 wsel_FL_isStore wq_1_1 wq_2_196) rfl rfl rfl ⟨rfl, by decide +kernel, by decide +kernel, by decide +kernel⟩ ⟨Nat.le_of_ble_eq_true rfl, Nat.le_of_ble_eq_true rfl⟩) ⟨Nat.zero_le _, Nat.zero_le _⟩ rfl rfl (Nat.le_of_ble_eq_true rfl) d_FL_power_2 rfl ?_
  refine fx_if_eq hF (tgt := 21) (pc' := 8) d_FL_power_5 rfl rfl (fun q4 => ?_) (fun q4 => ?_)
  · rw [if_pos q4] at h
    refine fx_iconst (pc' := 22) hF (v := (0 : Int32)) d_FL_power_21 rfl rfl ?_
    exact he I1 _ _ rfl _ d_FL_power_22 h
  · rw [if_neg q4] at h
    refine fx_aload_n (pc' := 9) hF d_FL_power_8 rfl 0 rfl rfl ?_
    obtain ⟨a5, na5, ea5, ka5, h⟩ := fw_ld_some h
    refine fx_getr (pc' := 12) hC hk0 (by decide) rfl iw_FL 3 (by decide) (by decide) rfl na5 ea5 (hw _ wq_1_196) rfl d_FL_power_9 rfl ?_
    refine fx_iload_n (pc' := 13) hF d_FL_power_12 rfl 1 rfl rfl ?_
    obtain ⟨q6, h⟩ := fw_gd_some h
    obtain ⟨a7, na7, ea7, ka7, h⟩ := fw_ld_some h
    refine fx_aald23 (pc' := 14) hC ka5 q6 na7 ea7 d_FL_power_13 rfl ?_
    refine fx_getiN (pc' := 17) hC ka7 (by decide) rfl iw_ST 2 (by decide) (by decide) rfl (va_Nw.use rfl (hN.1 _ wn_1_45)) rfl d_FL_power_14 rfl ?_
    refine fx_iload_n (pc' := 18) hF d_FL_power_17 rfl 2 rfl rfl ?_
    refine fx_icmp_ne hF (tgt := 23) (pc' := 21) d_FL_power_18 rfl rfl (fun q8 => ?_) (fun q8 => ?_)
    · rw [if_neg q8] at h
      refine fx_aload_n (pc' := 24) hF d_FL_power_23 rfl 0 rfl rfl ?_
      obtain ⟨a9, na9, ea9, ka9, h⟩ := fw_ld_some h
      refine fx_getr (pc' := 27) hC hk0 (by decide) rfl iw_FL 3 (by decide) (by decide) rfl na9 ea9 (hw _ wq_1_196) rfl d_FL_power_24 rfl ?_
      refine fx_iload_n (pc' := 28) hF d_FL_power_27 rfl 1 rfl rfl ?_
      obtain ⟨q10, h⟩ := fw_gd_some h
      obtain ⟨a11, na11, ea11, ka11, h⟩ := fw_ld_some h
      refine fx_aald23 (pc' := 29) hC ka9 q10 na11 ea11 d_FL_power_28 rfl ?_
      refine fx_iload_n (pc' := 30) hF d_FL_power_29 rfl 2 rfl rfl ?_
      obtain ⟨q12, h⟩ := fw_gd_some h
      obtain ⟨I13, eI13, h⟩ := fw_let_some h
      refine fx_putiN (pc' := 33) hC ka11 (by decide) rfl iw_ST 2 (by decide) (by decide) rfl ty_ST tyok_ST nn_ST rfl eI13 (tyok_ST 2 (by decide)) (fw_nz q12).1 (fw_nz q12).2 (va_Nw.use rfl (hN.1 _ wn_1_45)) rfl d_FL_power_30 rfl ?_
      refine fx_iconst (pc' := 34) hF (v := (1 : Int32)) d_FL_power_33 rfl rfl ?_
      exact he I13 _ _ rfl _ d_FL_power_34 h
    · rw [if_pos q8] at h
      refine fx_iconst (pc' := 22) hF (v := (0 : Int32)) d_FL_power_21 rfl rfl ?_
      exact he I1 _ _ rfl _ d_FL_power_22 h
set_option maxHeartbeats 4000000 in
set_option maxRecDepth 100000 in
theorem ct_FL_store (l : Launch) (D : va_G) (aC : Nat → ClassId) (g : Nat → Nat) (n : Nat) (K : Nat → Nat × Nat) (I : Nat → Nat → Int32) (k0 : Nat) (x1 : Int32) (x2 : Int32) (Rr : Int32 × (Nat → Nat → Int32)) (hn : ∀ k, (K k).1 < 99 → k < n) (hk0 : (K k0).1 = 5) (h : fn_FL_store K I k0 x1 x2 = some Rr) : fw_Mi l y_FL_store w_FL_store r_FL_store D aC g n K I [.ref (g k0), .int x1, .int x2] Rr := by
  refine fw_ofGi (cc := b_FL_store) (maxL := 3) (ws' := fw_ws) (by decide +kernel) hn (Nat.le_of_ble_eq_true rfl) rfl ?_
  intro p e s m args below meth c A Q hC hN hA he
  have hF := hC.1
  have hw : ∀ w ∈ fw_ws, w.before args s = true := fun w hw => hF.2.2.2.2 w (List.mem_cons_of_mem _ hw)
  unfold fn_FL_store at h
  change fw_G p l e r_FL_store s m args below meth c 0 0 Q 3 D aC A g n K I 0 [(0, .ref (g k0)), (1, .int x1), (2, .int x2)] []
  refine fx_aload_n (pc' := 1) hF d_FL_store_0 rfl 0 rfl rfl ?_
  refine fx_iload_n (pc' := 2) hF d_FL_store_1 rfl 1 rfl rfl ?_
  obtain ⟨r3, I1, c2, h⟩ := fw_bd_some h
  refine fx_callVi (pc' := 5) (As := [.int x1]) (st := []) hC hN hA hk0 (by decide) rfl (ct_FL_isStore l D aC g n K I k0 x1 (r3, I1) hn hk0 c2) (cwV 1 hF.2.2.2.2 (fw_gV wq_2_193 wq_2_195 wsel_FL_isStore wq_1_1 wq_2_196) rfl rfl rfl ⟨rfl, by decide +kernel, by decide +kernel, by decide +kernel⟩ ⟨Nat.le_of_ble_eq_true rfl, Nat.le_of_ble_eq_true rfl⟩) ⟨Nat.zero_le _, Nat.zero_le _⟩ rfl rfl (Nat.le_of_ble_eq_true rfl) d_FL_store_2 rfl ?_
  refine fx_if_ne hF (tgt := 10) (pc' := 8) d_FL_store_5 rfl rfl (fun q4 => ?_) (fun q4 => ?_)
  · rw [if_neg q4] at h
    refine fx_aload_n (pc' := 11) hF d_FL_store_10 rfl 0 rfl rfl ?_
    obtain ⟨a5, na5, ea5, ka5, h⟩ := fw_ld_some h
    refine fx_getr (pc' := 14) hC hk0 (by decide) rfl iw_FL 3 (by decide) (by decide) rfl na5 ea5 (hw _ wq_1_196) rfl d_FL_store_11 rfl ?_
    refine fx_iload_n (pc' := 15) hF d_FL_store_14 rfl 1 rfl rfl ?_
    obtain ⟨q6, h⟩ := fw_gd_some h
    obtain ⟨a7, na7, ea7, ka7, h⟩ := fw_ld_some h
    refine fx_aald23 (pc' := 16) hC ka5 q6 na7 ea7 d_FL_store_15 rfl ?_
    refine fx_iload_n (pc' := 17) hF d_FL_store_16 rfl 2 rfl rfl ?_
    obtain ⟨r10, I8, c9, h⟩ := fw_bd_some h
    refine fx_callVNi (pc' := 20) (As := [.int x2]) (st := []) hC hN hA ka7 (by decide) rfl (ct_ST_detail l D aC g n K I1 a7 x2 (r10, I8) hn ka7 c9) ⟨va_cnB 1 hF.2.2.2.2 (fw_gN wq_2_204) rfl rfl rfl (hN.1 _ wn_2_201) (hw _ wq_1_3) ⟨by decide +kernel, by decide +kernel, by decide +kernel⟩ ⟨Nat.le_of_ble_eq_true rfl, Nat.le_of_ble_eq_true rfl⟩, hw _ wq_2_203, hw _ wsel_ST_detail⟩ ⟨Nat.zero_le _, Nat.zero_le _⟩ rfl rfl (Nat.le_of_ble_eq_true rfl) d_FL_store_17 rfl ?_
    exact he I8 _ _ rfl _ d_FL_store_20 h
  · rw [if_pos q4] at h
    refine fx_iconst (pc' := 9) hF (v := (-1 : Int32)) d_FL_store_8 rfl rfl ?_
    exact he I1 _ _ rfl _ d_FL_store_9 h
set_option maxHeartbeats 4000000 in
set_option maxRecDepth 100000 in
theorem ct_FL_isEntry (l : Launch) (D : va_G) (aC : Nat → ClassId) (g : Nat → Nat) (n : Nat) (K : Nat → Nat × Nat) (I : Nat → Nat → Int32) (x0 : Int32) (Rr : Int32 × (Nat → Nat → Int32)) (hn : ∀ k, (K k).1 < 99 → k < n) (h : fn_FL_isEntry K I x0 = some Rr) : fw_Mi l y_FL_isEntry w_FL_isEntry r_FL_isEntry D aC g n K I [.int x0] Rr := by
  refine fw_ofGi (cc := b_FL_isEntry) (maxL := 1) (ws' := fw_ws) (by decide +kernel) hn (Nat.le_of_ble_eq_true rfl) rfl ?_
  intro p e s m args below meth c A Q hC hN hA he
  have hF := hC.1
  have hw : ∀ w ∈ fw_ws, w.before args s = true := fun w hw => hF.2.2.2.2 w (List.mem_cons_of_mem _ hw)
  unfold fn_FL_isEntry at h
  change fw_G p l e r_FL_isEntry s m args below meth c 0 0 Q 1 D aC A g n K I 0 [(0, .int x0)] []
  refine fx_iload_n (pc' := 1) hF d_FL_isEntry_0 rfl 0 rfl rfl ?_
  refine fx_if_lt hF (tgt := 14) (pc' := 4) d_FL_isEntry_1 rfl rfl (fun q1 => ?_) (fun q1 => ?_)
  · rw [if_pos q1] at h
    refine fx_iconst (pc' := 15) hF (v := (0 : Int32)) d_FL_isEntry_14 rfl rfl ?_
    exact he I _ _ rfl _ d_FL_isEntry_15 h
  · rw [if_neg q1] at h
    refine fx_iload_n (pc' := 5) hF d_FL_isEntry_4 rfl 0 rfl rfl ?_
    refine fx_bipush (pc' := 7) hF (v := (20 : Int32)) d_FL_isEntry_5 rfl rfl ?_
    refine fx_icmp_ge hF (tgt := 14) (pc' := 10) d_FL_isEntry_7 rfl rfl (fun q2 => ?_) (fun q2 => ?_)
    · rw [if_pos q2] at h
      refine fx_iconst (pc' := 15) hF (v := (0 : Int32)) d_FL_isEntry_14 rfl rfl ?_
      exact he I _ _ rfl _ d_FL_isEntry_15 h
    · rw [if_neg q2] at h
      refine fx_iconst (pc' := 11) hF (v := (1 : Int32)) d_FL_isEntry_10 rfl rfl ?_
      refine fx_goto hF (tgt := 15) d_FL_isEntry_11 rfl ?_
      exact he I _ _ rfl _ d_FL_isEntry_15 h
set_option maxHeartbeats 4000000 in
set_option maxRecDepth 100000 in
theorem ct_FL_has (l : Launch) (D : va_G) (aC : Nat → ClassId) (g : Nat → Nat) (n : Nat) (K : Nat → Nat × Nat) (I : Nat → Nat → Int32) (k0 : Nat) (x1 : Int32) (x2 : Int32) (Rr : Int32 × (Nat → Nat → Int32)) (hn : ∀ k, (K k).1 < 99 → k < n) (hk0 : (K k0).1 = 5) (h : fn_FL_has K I k0 x1 x2 = some Rr) : fw_Mi l y_FL_has w_FL_has r_FL_has D aC g n K I [.ref (g k0), .int x1, .int x2] Rr := by
  refine fw_ofGi (cc := b_FL_has) (maxL := 3) (ws' := fw_ws) (by decide +kernel) hn (Nat.le_of_ble_eq_true rfl) rfl ?_
  intro p e s m args below meth c A Q hC hN hA he
  have hF := hC.1
  have hw : ∀ w ∈ fw_ws, w.before args s = true := fun w hw => hF.2.2.2.2 w (List.mem_cons_of_mem _ hw)
  unfold fn_FL_has at h
  change fw_G p l e r_FL_has s m args below meth c 0 0 Q 3 D aC A g n K I 0 [(0, .ref (g k0)), (1, .int x1), (2, .int x2)] []
  refine fx_aload_n (pc' := 1) hF d_FL_has_0 rfl 0 rfl rfl ?_
  refine fx_iload_n (pc' := 2) hF d_FL_has_1 rfl 1 rfl rfl ?_
  obtain ⟨r3, I1, c2, h⟩ := fw_bd_some h
  refine fx_callVi (pc' := 5) (As := [.int x1]) (st := []) hC hN hA hk0 (by decide) rfl (ct_FL_isStore l D aC g n K I k0 x1 (r3, I1) hn hk0 c2) (cwV 1 hF.2.2.2.2 (fw_gV wq_2_193 wq_2_195 wsel_FL_isStore wq_1_1 wq_2_196) rfl rfl rfl ⟨rfl, by decide +kernel, by decide +kernel, by decide +kernel⟩ ⟨Nat.le_of_ble_eq_true rfl, Nat.le_of_ble_eq_true rfl⟩) ⟨Nat.zero_le _, Nat.zero_le _⟩ rfl rfl (Nat.le_of_ble_eq_true rfl) d_FL_has_2 rfl ?_
  refine fx_if_eq hF (tgt := 33) (pc' := 8) d_FL_has_5 rfl rfl (fun q4 => ?_) (fun q4 => ?_)
  · rw [if_pos q4] at h
    refine fx_iconst (pc' := 34) hF (v := (0 : Int32)) d_FL_has_33 rfl rfl ?_
    exact he I1 _ _ rfl _ d_FL_has_34 h
  · rw [if_neg q4] at h
    refine fx_iload_n (pc' := 9) hF d_FL_has_8 rfl 2 rfl rfl ?_
    obtain ⟨r7, I5, c6, h⟩ := fw_bd_some h
    refine fx_callSi (pc' := 12) (As := [.int x2]) (st := []) hC hN hA (ct_FL_isEntry l D aC g n K I1 x2 (r7, I5) hn c6) (va_cwS 1 hF.2.2.2.2 (fw_gS wq_2_209 wq_2_210 wq_1_1 wq_2_211) rfl rfl rfl ⟨by decide +kernel, by decide +kernel, by decide +kernel⟩ ⟨Nat.le_of_ble_eq_true rfl, Nat.le_of_ble_eq_true rfl⟩) ⟨Nat.zero_le _, Nat.zero_le _⟩ rfl rfl (Nat.le_of_ble_eq_true rfl) d_FL_has_9 rfl ?_
    refine fx_if_eq hF (tgt := 33) (pc' := 15) d_FL_has_12 rfl rfl (fun q8 => ?_) (fun q8 => ?_)
    · rw [if_pos q8] at h
      refine fx_iconst (pc' := 34) hF (v := (0 : Int32)) d_FL_has_33 rfl rfl ?_
      exact he I5 _ _ rfl _ d_FL_has_34 h
    · rw [if_neg q8] at h
      refine fx_aload_n (pc' := 16) hF d_FL_has_15 rfl 0 rfl rfl ?_
      obtain ⟨a9, na9, ea9, ka9, h⟩ := fw_ld_some h
      refine fx_getr (pc' := 19) hC hk0 (by decide) rfl iw_FL 3 (by decide) (by decide) rfl na9 ea9 (hw _ wq_1_196) rfl d_FL_has_16 rfl ?_
      refine fx_iload_n (pc' := 20) hF d_FL_has_19 rfl 1 rfl rfl ?_
      obtain ⟨q10, h⟩ := fw_gd_some h
      obtain ⟨a11, na11, ea11, ka11, h⟩ := fw_ld_some h
      refine fx_aald23 (pc' := 21) hC ka9 q10 na11 ea11 d_FL_has_20 rfl ?_
      obtain ⟨a12, na12, ea12, ka12, h⟩ := fw_ld_some h
      refine fx_getrN (pc' := 24) hC ka11 (by decide) rfl iw_ST 0 (by decide) (by decide) rfl na12 ea12 (va_Nw.use rfl (hN.1 _ wn_1_41)) rfl d_FL_has_21 rfl ?_
      refine fx_iload_n (pc' := 25) hF d_FL_has_24 rfl 2 rfl rfl ?_
      obtain ⟨q13, h⟩ := fw_gd_some h
      refine fx_zald (pc' := 26) hC ka12 q13 d_FL_has_25 rfl ?_
      refine fx_if_eq hF (tgt := 33) (pc' := 29) d_FL_has_26 rfl rfl (fun q14 => ?_) (fun q14 => ?_)
      · rw [if_pos q14] at h
        refine fx_iconst (pc' := 34) hF (v := (0 : Int32)) d_FL_has_33 rfl rfl ?_
        exact he I5 _ _ rfl _ d_FL_has_34 h
      · rw [if_neg q14] at h
        refine fx_iconst (pc' := 30) hF (v := (1 : Int32)) d_FL_has_29 rfl rfl ?_
        refine fx_goto hF (tgt := 34) d_FL_has_30 rfl ?_
        exact he I5 _ _ rfl _ d_FL_has_34 h
set_option maxHeartbeats 4000000 in
set_option maxRecDepth 100000 in
theorem ct_FL_ledger (l : Launch) (D : va_G) (aC : Nat → ClassId) (g : Nat → Nat) (n : Nat) (K : Nat → Nat × Nat) (I : Nat → Nat → Int32) (k0 : Nat) (x1 : Int32) (Rr : Int32 × (Nat → Nat → Int32)) (hn : ∀ k, (K k).1 < 99 → k < n) (hk0 : (K k0).1 = 5) (h : fn_FL_ledger K I k0 x1 = some Rr) : fw_Mi l y_FL_ledger w_FL_ledger r_FL_ledger D aC g n K I [.ref (g k0), .int x1] Rr := by
  refine fw_ofGi (cc := b_FL_ledger) (maxL := 2) (ws' := fw_ws) (by decide +kernel) hn (Nat.le_of_ble_eq_true rfl) rfl ?_
  intro p e s m args below meth c A Q hC hN hA he
  have hF := hC.1
  have hw : ∀ w ∈ fw_ws, w.before args s = true := fun w hw => hF.2.2.2.2 w (List.mem_cons_of_mem _ hw)
  unfold fn_FL_ledger at h
  change fw_G p l e r_FL_ledger s m args below meth c 0 0 Q 2 D aC A g n K I 0 [(0, .ref (g k0)), (1, .int x1)] []
  refine fx_iload_n (pc' := 1) hF d_FL_ledger_0 rfl 1 rfl rfl ?_
  by_cases q1 : x1 = (0 : Int32)
  · rw [if_pos q1] at h
    refine fx_swIn hF (tgt := 28) d_FL_ledger_1 (by rw [q1]; decide) (by rw [q1]; decide) (by rw [q1]; rfl) rfl ?_
    refine fx_aload_n (pc' := 29) hF d_FL_ledger_28 rfl 0 rfl rfl ?_
    refine fx_geti (pc' := 32) hC hk0 (by decide) rfl iw_FL 7 (by decide) (by decide) rfl (hw _ wq_1_200) rfl d_FL_ledger_29 rfl ?_
    exact he I _ _ rfl _ d_FL_ledger_32 h
  · rw [if_neg q1] at h
    by_cases q2 : x1 = (1 : Int32)
    · rw [if_pos q2] at h
      refine fx_swIn hF (tgt := 33) d_FL_ledger_1 (by rw [q2]; decide) (by rw [q2]; decide) (by rw [q2]; rfl) rfl ?_
      refine fx_aload_n (pc' := 34) hF d_FL_ledger_33 rfl 0 rfl rfl ?_
      refine fx_geti (pc' := 37) hC hk0 (by decide) rfl iw_FL 8 (by decide) (by decide) rfl (hw _ wq_1_201) rfl d_FL_ledger_34 rfl ?_
      exact he I _ _ rfl _ d_FL_ledger_37 h
    · rw [if_neg q2] at h
      by_cases q3 : x1 = (2 : Int32)
      · rw [if_pos q3] at h
        refine fx_swIn hF (tgt := 38) d_FL_ledger_1 (by rw [q3]; decide) (by rw [q3]; decide) (by rw [q3]; rfl) rfl ?_
        refine fx_aload_n (pc' := 39) hF d_FL_ledger_38 rfl 0 rfl rfl ?_
        refine fx_geti (pc' := 42) hC hk0 (by decide) rfl iw_FL 7 (by decide) (by decide) rfl (hw _ wq_1_200) rfl d_FL_ledger_39 rfl ?_
        refine fx_iconst (pc' := 43) hF (v := (2 : Int32)) d_FL_ledger_42 rfl rfl ?_
        refine fx_icmp_ne hF (tgt := 53) (pc' := 46) d_FL_ledger_43 rfl rfl (fun q4 => ?_) (fun q4 => ?_)
        · rw [if_neg q4] at h
          refine fx_iconst (pc' := 54) hF (v := (-1 : Int32)) d_FL_ledger_53 rfl rfl ?_
          exact he I _ _ rfl _ d_FL_ledger_54 h
        · rw [if_pos q4] at h
          refine fx_aload_n (pc' := 47) hF d_FL_ledger_46 rfl 0 rfl rfl ?_
          refine fx_geti (pc' := 50) hC hk0 (by decide) rfl iw_FL 9 (by decide) (by decide) rfl (hw _ wq_1_202) rfl d_FL_ledger_47 rfl ?_
          refine fx_goto hF (tgt := 54) d_FL_ledger_50 rfl ?_
          exact he I _ _ rfl _ d_FL_ledger_54 h
      · rw [if_neg q3] at h
        refine fx_swOut hF (tgt := 55) d_FL_ledger_1 (by have z0 := lv_neT q1 (a := 0) rfl; have z1 := lv_neT q2 (a := 1) rfl; have z2 := lv_neT q3 (a := 2) rfl; omega) rfl ?_
        refine fx_iconst (pc' := 56) hF (v := (-1 : Int32)) d_FL_ledger_55 rfl rfl ?_
        exact he I _ _ rfl _ d_FL_ledger_56 h
set_option maxHeartbeats 4000000 in
set_option maxRecDepth 100000 in
theorem ct_FL_firstUpWith (l : Launch) (D : va_G) (aC : Nat → ClassId) (g : Nat → Nat) (n : Nat) (K : Nat → Nat × Nat) (I : Nat → Nat → Int32) (k0 : Nat) (x1 : Int32) (Rr : Int32 × (Nat → Nat → Int32)) (hn : ∀ k, (K k).1 < 99 → k < n) (hk0 : (K k0).1 = 5) (h : fn_FL_firstUpWith K I k0 x1 = some Rr) : fw_Mi l y_FL_firstUpWith w_FL_firstUpWith r_FL_firstUpWith D aC g n K I [.ref (g k0), .int x1] Rr := by
  refine fw_ofGi (cc := b_FL_firstUpWith) (maxL := 4) (ws' := fw_ws) (by decide +kernel) hn (Nat.le_of_ble_eq_true rfl) rfl ?_
  intro p e s m args below meth c A Q hC hN hA he
  have hF := hC.1
  have hw : ∀ w ∈ fw_ws, w.before args s = true := fun w hw => hF.2.2.2.2 w (List.mem_cons_of_mem _ hw)
  unfold fn_FL_firstUpWith at h
  have B2 : ∀ (f : Nat) (I : Nat → Nat → Int32) (x1 : Int32) (x2 : Int32), fn_FL_firstUpWith_2 K f I k0 x1 x2 = some Rr → fw_G p l e r_FL_firstUpWith s m args below meth c 0 0 Q 4 D aC A g n K I 2 [(0, .ref (g k0)), (1, .int x1), (2, .int x2)] [] := by
    intro f
    induction f with
    | zero =>
      intro I x1 x2 h
      rw [fn_FL_firstUpWith_2] at h
      cases h
    | succ f ih =>
      intro I x1 x2 h
      rw [fn_FL_firstUpWith_2] at h
      refine fx_iload_n (pc' := 3) hF d_FL_firstUpWith_2 rfl 2 rfl rfl ?_
      refine fx_aload_n (pc' := 4) hF d_FL_firstUpWith_3 rfl 0 rfl rfl ?_
      refine fx_geti (pc' := 7) hC hk0 (by decide) rfl iw_FL 1 (by decide) (by decide) rfl (hw _ wq_1_194) rfl d_FL_firstUpWith_4 rfl ?_
      refine fx_icmp_ge hF (tgt := 51) (pc' := 10) d_FL_firstUpWith_7 rfl rfl (fun q1 => ?_) (fun q1 => ?_)
      · rw [if_pos q1] at h
        refine fx_iconst (pc' := 52) hF (v := (-1 : Int32)) d_FL_firstUpWith_51 rfl rfl ?_
        exact he I _ _ rfl _ d_FL_firstUpWith_52 h
      · rw [if_neg q1] at h
        refine fx_aload_n (pc' := 11) hF d_FL_firstUpWith_10 rfl 0 rfl rfl ?_
        refine fx_iload_n (pc' := 12) hF d_FL_firstUpWith_11 rfl 1 rfl rfl ?_
        refine fx_iload_n (pc' := 13) hF d_FL_firstUpWith_12 rfl 2 rfl rfl ?_
        obtain ⟨r4, I2, c3, h⟩ := fw_bd_some h
        refine fx_callVi (pc' := 16) (As := [.int x1, .int x2]) (st := []) hC hN hA hk0 (by decide) rfl (ct_FL_setMember l D aC g n K I k0 x1 x2 (r4, I2) hn hk0 c3) (cwV 2 hF.2.2.2.2 (fw_gV wq_2_10 wq_2_12 wsel_FL_setMember wq_1_1 wq_2_13) rfl rfl rfl ⟨rfl, by decide +kernel, by decide +kernel, by decide +kernel⟩ ⟨Nat.le_of_ble_eq_true rfl, Nat.le_of_ble_eq_true rfl⟩) ⟨Nat.zero_le _, Nat.zero_le _⟩ rfl rfl (Nat.le_of_ble_eq_true rfl) d_FL_firstUpWith_13 rfl ?_
        refine fx_istore_n (pc' := 17) hF (lv' := [(3, .int r4), (0, .ref (g k0)), (1, .int x1), (2, .int x2)]) d_FL_firstUpWith_16 rfl (by decide) rfl rfl ?_
        refine fx_aload_n (pc' := 18) hF d_FL_firstUpWith_17 rfl 1 rfl rfl ?_
        obtain ⟨a5, na5, ea5, ka5, h⟩ := fw_ld_some h
        refine fx_getr (pc' := 21) hC hk0 (by decide) rfl iw_FL 3 (by decide) (by decide) rfl na5 ea5 (hw _ wq_1_196) rfl d_FL_firstUpWith_18 rfl ?_
        refine fx_iload_n (pc' := 22) hF d_FL_firstUpWith_21 rfl 0 rfl rfl ?_
        obtain ⟨q6, h⟩ := fw_gd_some h
        obtain ⟨a7, na7, ea7, ka7, h⟩ := fw_ld_some h
        refine fx_aald23 (pc' := 23) hC ka5 q6 na7 ea7 d_FL_firstUpWith_22 rfl ?_
        refine fx_getiN (pc' := 26) hC ka7 (by decide) rfl iw_ST 2 (by decide) (by decide) rfl (va_Nw.use rfl (hN.1 _ wn_1_45)) rfl d_FL_firstUpWith_23 rfl ?_
        refine fx_if_eq hF (tgt := 45) (pc' := 29) d_FL_firstUpWith_26 rfl rfl (fun q8 => ?_) (fun q8 => ?_)
        · rw [if_pos q8] at h
          refine fx_iinc (pc' := 48) hF (v := x2 + 1) (lv' := [(2, .int (x2 + 1)), (3, .int r4), (0, .ref (g k0)), (1, .int x1)]) d_FL_firstUpWith_45 3 rfl rfl (by decide) rfl rfl ?_
          refine fx_goto hF (tgt := 2) d_FL_firstUpWith_48 rfl ?_
          refine fx_lv [2, 3, 0] rfl ?_
          exact ih I2 x1 (x2 + 1) h
        · rw [if_neg q8] at h
          refine fx_aload_n (pc' := 30) hF d_FL_firstUpWith_29 rfl 1 rfl rfl ?_
          obtain ⟨a9, na9, ea9, ka9, h⟩ := fw_ld_some h
          refine fx_getr (pc' := 33) hC hk0 (by decide) rfl iw_FL 3 (by decide) (by decide) rfl na9 ea9 (hw _ wq_1_196) rfl d_FL_firstUpWith_30 rfl ?_
          refine fx_iload_n (pc' := 34) hF d_FL_firstUpWith_33 rfl 0 rfl rfl ?_
          obtain ⟨q10, h⟩ := fw_gd_some h
          obtain ⟨a11, na11, ea11, ka11, h⟩ := fw_ld_some h
          refine fx_aald23 (pc' := 35) hC ka9 q10 na11 ea11 d_FL_firstUpWith_34 rfl ?_
          obtain ⟨a12, na12, ea12, ka12, h⟩ := fw_ld_some h
          refine fx_getrN (pc' := 38) hC ka11 (by decide) rfl iw_ST 0 (by decide) (by decide) rfl na12 ea12 (va_Nw.use rfl (hN.1 _ wn_1_41)) rfl d_FL_firstUpWith_35 rfl ?_
          refine fx_iload_n (pc' := 39) hF d_FL_firstUpWith_38 rfl 2 rfl rfl ?_
          obtain ⟨q13, h⟩ := fw_gd_some h
          refine fx_zald (pc' := 40) hC ka12 q13 d_FL_firstUpWith_39 rfl ?_
          refine fx_if_eq hF (tgt := 45) (pc' := 43) d_FL_firstUpWith_40 rfl rfl (fun q14 => ?_) (fun q14 => ?_)
          · rw [if_pos q14] at h
            refine fx_iinc (pc' := 48) hF (v := x2 + 1) (lv' := [(2, .int (x2 + 1)), (3, .int r4), (0, .ref (g k0)), (1, .int x1)]) d_FL_firstUpWith_45 3 rfl rfl (by decide) rfl rfl ?_
            refine fx_goto hF (tgt := 2) d_FL_firstUpWith_48 rfl ?_
            refine fx_lv [2, 3, 0] rfl ?_
            exact ih I2 x1 (x2 + 1) h
          · rw [if_neg q14] at h
            refine fx_iload_n (pc' := 44) hF d_FL_firstUpWith_43 rfl 0 rfl rfl ?_
            exact he I2 _ _ rfl _ d_FL_firstUpWith_44 h
  change fw_G p l e r_FL_firstUpWith s m args below meth c 0 0 Q 4 D aC A g n K I 0 [(0, .ref (g k0)), (1, .int x1)] []
  refine fx_iconst (pc' := 1) hF (v := (0 : Int32)) d_FL_firstUpWith_0 rfl rfl ?_
  refine fx_istore_n (pc' := 2) hF (lv' := [(2, .int (0 : Int32)), (0, .ref (g k0)), (1, .int x1)]) d_FL_firstUpWith_1 rfl (by decide) rfl rfl ?_
  refine fx_lv [1, 2, 0] rfl ?_
  exact B2 200 I x1 (0 : Int32) h
set_option maxHeartbeats 4000000 in
set_option maxRecDepth 100000 in
theorem ct_FL_read (l : Launch) (D : va_G) (aC : Nat → ClassId) (g : Nat → Nat) (n : Nat) (K : Nat → Nat × Nat) (I : Nat → Nat → Int32) (k0 : Nat) (x1 : Int32) (Rr : Int32 × (Nat → Nat → Int32)) (hn : ∀ k, (K k).1 < 99 → k < n) (hk0 : (K k0).1 = 5) (h : fn_FL_read K I k0 x1 = some (0, Rr)) : fw_Mi l y_FL_read w_FL_read r_FL_read D aC g n K I [.ref (g k0), .int x1] Rr := by
  refine fw_ofGi (cc := b_FL_read) (maxL := 3) (ws' := fw_ws) (by decide +kernel) hn (Nat.le_of_ble_eq_true rfl) rfl ?_
  intro p e s m args below meth c A Q hC hN hA he
  have hF := hC.1
  have hw : ∀ w ∈ fw_ws, w.before args s = true := fun w hw => hF.2.2.2.2 w (List.mem_cons_of_mem _ hw)
  unfold fn_FL_read at h
  have B33 : ∀ (I : Nat → Nat → Int32), fn_FL_read_33 K I  = some (0, Rr) → fw_G p l e r_FL_read s m args below meth c 0 0 Q 3 D aC A g n K I 33 [] [] := by
    intro I h
    unfold fn_FL_read_33 at h
    exact fw_tag h (by decide)
  change fw_G p l e r_FL_read s m args below meth c 0 0 Q 3 D aC A g n K I 0 [(0, .ref (g k0)), (1, .int x1)] []
  refine fx_aload_n (pc' := 1) hF d_FL_read_0 rfl 0 rfl rfl ?_
  refine fx_geti (pc' := 4) hC hk0 (by decide) rfl iw_FL 7 (by decide) (by decide) rfl (hw _ wq_1_200) rfl d_FL_read_1 rfl ?_
  refine fx_iconst (pc' := 5) hF (v := (2 : Int32)) d_FL_read_4 rfl rfl ?_
  refine fx_icmp_eq hF (tgt := 18) (pc' := 8) d_FL_read_5 rfl rfl (fun q1 => ?_) (fun q1 => ?_)
  · rw [if_pos q1] at h
    refine fx_iload_n (pc' := 19) hF d_FL_read_18 rfl 1 rfl rfl ?_
    obtain ⟨r4, I2, c3, h⟩ := fw_bd_some h
    refine fx_callSi (pc' := 22) (As := [.int x1]) (st := []) hC hN hA (ct_FL_isEntry l D aC g n K I x1 (r4, I2) hn c3) (va_cwS 1 hF.2.2.2.2 (fw_gS wq_2_209 wq_2_210 wq_1_1 wq_2_211) rfl rfl rfl ⟨by decide +kernel, by decide +kernel, by decide +kernel⟩ ⟨Nat.le_of_ble_eq_true rfl, Nat.le_of_ble_eq_true rfl⟩) ⟨Nat.zero_le _, Nat.zero_le _⟩ rfl rfl (Nat.le_of_ble_eq_true rfl) d_FL_read_19 rfl ?_
    refine fx_if_eq hF (tgt := 33) (pc' := 25) d_FL_read_22 rfl rfl (fun q5 => ?_) (fun q5 => ?_)
    · rw [if_pos q5] at h
      refine fx_lv [] rfl ?_
      exact B33 I2 h
    · rw [if_neg q5] at h
      refine fx_iload_n (pc' := 26) hF d_FL_read_25 rfl 1 rfl rfl ?_
      refine fx_aload_n (pc' := 27) hF d_FL_read_26 rfl 0 rfl rfl ?_
      refine fx_geti (pc' := 30) hC hk0 (by decide) rfl iw_FL 9 (by decide) (by decide) rfl (hw _ wq_1_202) rfl d_FL_read_27 rfl ?_
      refine fx_icmp_le hF (tgt := 43) (pc' := 33) d_FL_read_30 rfl rfl (fun q6 => ?_) (fun q6 => ?_)
      · rw [if_pos q6] at h
        refine fx_aload_n (pc' := 44) hF d_FL_read_43 rfl 0 rfl rfl ?_
        refine fx_iload_n (pc' := 45) hF d_FL_read_44 rfl 1 rfl rfl ?_
        obtain ⟨r9, I7, c8, h⟩ := fw_bd_some h
        refine fx_callVi (pc' := 48) (As := [.int x1]) (st := []) hC hN hA hk0 (by decide) rfl (ct_FL_firstUpWith l D aC g n K I2 k0 x1 (r9, I7) hn hk0 c8) (cwV 1 hF.2.2.2.2 (fw_gV wq_3_90 wq_3_92 wsel_FL_firstUpWith wq_1_1 wq_3_93) rfl rfl rfl ⟨rfl, by decide +kernel, by decide +kernel, by decide +kernel⟩ ⟨Nat.le_of_ble_eq_true rfl, Nat.le_of_ble_eq_true rfl⟩) ⟨Nat.zero_le _, Nat.zero_le _⟩ rfl rfl (Nat.le_of_ble_eq_true rfl) d_FL_read_45 rfl ?_
        refine fx_istore_n (pc' := 49) hF (lv' := [(2, .int r9), (0, .ref (g k0)), (1, .int x1)]) d_FL_read_48 rfl (by decide) rfl rfl ?_
        refine fx_iload_n (pc' := 50) hF d_FL_read_49 rfl 0 rfl rfl ?_
        refine fx_iconst (pc' := 51) hF (v := (-1 : Int32)) d_FL_read_50 rfl rfl ?_
        refine fx_icmp_ne hF (tgt := 64) (pc' := 54) d_FL_read_51 rfl rfl (fun q10 => ?_) (fun q10 => ?_)
        · rw [if_neg q10] at h
          refine fx_aload_n (pc' := 65) hF d_FL_read_64 rfl 1 rfl rfl ?_
          obtain ⟨a11, na11, ea11, ka11, h⟩ := fw_ld_some h
          refine fx_getr (pc' := 68) hC hk0 (by decide) rfl iw_FL 3 (by decide) (by decide) rfl na11 ea11 (hw _ wq_1_196) rfl d_FL_read_65 rfl ?_
          refine fx_iload_n (pc' := 69) hF d_FL_read_68 rfl 0 rfl rfl ?_
          obtain ⟨q12, h⟩ := fw_gd_some h
          obtain ⟨a13, na13, ea13, ka13, h⟩ := fw_ld_some h
          refine fx_aald23 (pc' := 70) hC ka11 q12 na13 ea13 d_FL_read_69 rfl ?_
          obtain ⟨a14, na14, ea14, ka14, h⟩ := fw_ld_some h
          refine fx_getrN (pc' := 73) hC ka13 (by decide) rfl iw_ST 1 (by decide) (by decide) rfl na14 ea14 (va_Nw.use rfl (hN.1 _ wn_1_43)) rfl d_FL_read_70 rfl ?_
          refine fx_iload_n (pc' := 74) hF d_FL_read_73 rfl 2 rfl rfl ?_
          obtain ⟨q15, h⟩ := fw_gd_some h
          refine fx_iald (pc' := 75) hC ka14 q15 d_FL_read_74 rfl ?_
          exact he I7 _ _ rfl _ d_FL_read_75 (fw_tag0 h)
        · rw [if_pos q10] at h
          exact fw_tag h (by decide)
      · rw [if_neg q6] at h
        refine fx_lv [] rfl ?_
        exact B33 I2 h
  · rw [if_neg q1] at h
    exact fw_tag h (by decide)
