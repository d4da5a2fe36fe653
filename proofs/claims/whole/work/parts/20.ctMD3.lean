set_option maxHeartbeats 4000000 in
set_option maxRecDepth 100000 in
theorem ct_MD_resend (l : Launch) (D : va_G) (aC : Nat → ClassId) (g : Nat → Nat) (n : Nat) (K : Nat → Nat × Nat) (I : Nat → Nat → Int32) (k0 : Nat) (x1 : Int32) (Rr : Int32 × (Nat → Nat → Int32)) (hn : ∀ k, (K k).1 < 99 → k < n) (hk0 : (K k0).1 = 6) (h : fn_MD_resend K I k0 x1 = some Rr) : fw_Mi l y_MD_resend w_MD_resend r_MD_resend D aC g n K I [.ref (g k0), .int x1] Rr := by
  refine fw_ofGi (cc := b_MD_resend) (maxL := 2) (ws' := fw_ws) (by decide +kernel) hn (Nat.le_of_ble_eq_true rfl) rfl ?_
  intro p e s m args below meth c A Q hC hN hA he
  have hF := hC.1
  have hw : ∀ w ∈ fw_ws, w.before args s = true := fun w hw => hF.2.2.2.2 w (List.mem_cons_of_mem _ hw)
  unfold fn_MD_resend at h
  change fw_G p l e r_MD_resend s m args below meth c 0 0 Q 2 D aC A g n K I 0 [(0, .ref (g k0)), (1, .int x1)] []
  refine fx_aload_n (pc' := 1) hF d_MD_resend_0 rfl 0 rfl rfl ?_
  refine fx_iconst (pc' := 2) hF (v := (0 : Int32)) d_MD_resend_1 rfl rfl ?_
  obtain ⟨I1, eI1, h⟩ := fw_let_some h
  refine fx_puti (pc' := 5) hC hk0 (by decide) rfl iw_MD 0 (by decide) (by decide) rfl ty_MD tyok_MD nn_MD rfl eI1 (tyok_MD 0 (by decide)) rfl rfl (hw _ wq_3_116) rfl d_MD_resend_2 rfl ?_
  refine fx_aload_n (pc' := 6) hF d_MD_resend_5 rfl 0 rfl rfl ?_
  refine fx_geti (pc' := 9) hC hk0 (by decide) rfl iw_MD 14 (by decide) (by decide) rfl (hw _ wq_3_130) rfl d_MD_resend_6 rfl ?_
  refine fx_if_ne hF (tgt := 24) (pc' := 12) d_MD_resend_9 rfl rfl (fun q2 => ?_) (fun q2 => ?_)
  · rw [if_neg q2] at h
    refine fx_iconst (pc' := 25) hF (v := (-1 : Int32)) d_MD_resend_24 rfl rfl ?_
    exact he I1 _ _ rfl _ d_MD_resend_25 h
  · rw [if_pos q2] at h
    refine fx_iload_n (pc' := 13) hF d_MD_resend_12 rfl 1 rfl rfl ?_
    refine fx_if_lt hF (tgt := 24) (pc' := 16) d_MD_resend_13 rfl rfl (fun q3 => ?_) (fun q3 => ?_)
    · rw [if_pos q3] at h
      refine fx_iconst (pc' := 25) hF (v := (-1 : Int32)) d_MD_resend_24 rfl rfl ?_
      exact he I1 _ _ rfl _ d_MD_resend_25 h
    · rw [if_neg q3] at h
      refine fx_iload_n (pc' := 17) hF d_MD_resend_16 rfl 1 rfl rfl ?_
      refine fx_aload_n (pc' := 18) hF d_MD_resend_17 rfl 0 rfl rfl ?_
      refine fx_geti (pc' := 21) hC hk0 (by decide) rfl iw_MD 15 (by decide) (by decide) rfl (hw _ wq_3_131) rfl d_MD_resend_18 rfl ?_
      refine fx_icmp_lt hF (tgt := 26) (pc' := 24) d_MD_resend_21 rfl rfl (fun q4 => ?_) (fun q4 => ?_)
      · rw [if_pos q4] at h
        refine fx_iload_n (pc' := 27) hF d_MD_resend_26 rfl 1 rfl rfl ?_
        refine fx_aload_n (pc' := 28) hF d_MD_resend_27 rfl 0 rfl rfl ?_
        refine fx_geti (pc' := 31) hC hk0 (by decide) rfl iw_MD 16 (by decide) (by decide) rfl (hw _ wq_3_132) rfl d_MD_resend_28 rfl ?_
        refine fx_icmp_gt hF (tgt := 50) (pc' := 34) d_MD_resend_31 rfl rfl (fun q5 => ?_) (fun q5 => ?_)
        · rw [if_pos q5] at h
          refine fx_aload_n (pc' := 51) hF d_MD_resend_50 rfl 0 rfl rfl ?_
          refine fx_iload_n (pc' := 52) hF d_MD_resend_51 rfl 1 rfl rfl ?_
          obtain ⟨r8, I6, c7, h⟩ := fw_bd_some h
          refine fx_callVi (pc' := 55) (As := [.int x1]) (st := []) hC hN hA hk0 (by decide) rfl (ct_MD_spread l D aC g n K I1 k0 x1 (r8, I6) hn hk0 c7) (cwV 1 hF.2.2.2.2 (fw_gV wq_4_32 wq_4_34 wsel_MD_spread wq_1_8 wq_4_35) rfl rfl rfl ⟨rfl, by decide +kernel, by decide +kernel, by decide +kernel⟩ ⟨Nat.le_of_ble_eq_true rfl, Nat.le_of_ble_eq_true rfl⟩) ⟨Nat.zero_le _, Nat.zero_le _⟩ rfl rfl (Nat.le_of_ble_eq_true rfl) d_MD_resend_52 rfl ?_
          exact he I6 _ _ rfl _ d_MD_resend_55 h
        · rw [if_neg q5] at h
          refine fx_aload_n (pc' := 35) hF d_MD_resend_34 rfl 0 rfl rfl ?_
          refine fx_iload_n (pc' := 36) hF d_MD_resend_35 rfl 1 rfl rfl ?_
          obtain ⟨r11, I9, c10, h⟩ := fw_bd_some h
          refine fx_callVi (pc' := 39) (As := [.int x1]) (st := []) hC hN hA hk0 (by decide) rfl (ct_MD_ackCount l D aC g n K I1 k0 x1 (r11, I9) hn hk0 c10) (cwV 1 hF.2.2.2.2 (fw_gV wq_3_224 wq_3_226 wsel_MD_ackCount wq_1_8 wq_3_227) rfl rfl rfl ⟨rfl, by decide +kernel, by decide +kernel, by decide +kernel⟩ ⟨Nat.le_of_ble_eq_true rfl, Nat.le_of_ble_eq_true rfl⟩) ⟨Nat.zero_le _, Nat.zero_le _⟩ rfl rfl (Nat.le_of_ble_eq_true rfl) d_MD_resend_36 rfl ?_
          refine fx_aload_n (pc' := 40) hF d_MD_resend_39 rfl 0 rfl rfl ?_
          refine fx_geti (pc' := 43) hC hk0 (by decide) rfl iw_MD 2 (by decide) (by decide) rfl (hw _ wq_3_118) rfl d_MD_resend_40 rfl ?_
          refine fx_icmp_ne hF (tgt := 50) (pc' := 46) d_MD_resend_43 rfl rfl (fun q12 => ?_) (fun q12 => ?_)
          · rw [if_neg q12] at h
            refine fx_aload_n (pc' := 51) hF d_MD_resend_50 rfl 0 rfl rfl ?_
            refine fx_iload_n (pc' := 52) hF d_MD_resend_51 rfl 1 rfl rfl ?_
            obtain ⟨r15, I13, c14, h⟩ := fw_bd_some h
            refine fx_callVi (pc' := 55) (As := [.int x1]) (st := []) hC hN hA hk0 (by decide) rfl (ct_MD_spread l D aC g n K I9 k0 x1 (r15, I13) hn hk0 c14) (cwV 1 hF.2.2.2.2 (fw_gV wq_4_32 wq_4_34 wsel_MD_spread wq_1_8 wq_4_35) rfl rfl rfl ⟨rfl, by decide +kernel, by decide +kernel, by decide +kernel⟩ ⟨Nat.le_of_ble_eq_true rfl, Nat.le_of_ble_eq_true rfl⟩) ⟨Nat.zero_le _, Nat.zero_le _⟩ rfl rfl (Nat.le_of_ble_eq_true rfl) d_MD_resend_52 rfl ?_
            exact he I13 _ _ rfl _ d_MD_resend_55 h
          · rw [if_pos q12] at h
            refine fx_iconst (pc' := 47) hF (v := (-1 : Int32)) d_MD_resend_46 rfl rfl ?_
            refine fx_goto hF (tgt := 55) d_MD_resend_47 rfl ?_
            exact he I9 _ _ rfl _ d_MD_resend_55 h
      · rw [if_neg q4] at h
        refine fx_iconst (pc' := 25) hF (v := (-1 : Int32)) d_MD_resend_24 rfl rfl ?_
        exact he I1 _ _ rfl _ d_MD_resend_25 h
set_option maxHeartbeats 4000000 in
set_option maxRecDepth 100000 in
theorem ct_MD_close (l : Launch) (D : va_G) (aC : Nat → ClassId) (g : Nat → Nat) (n : Nat) (K : Nat → Nat × Nat) (I : Nat → Nat → Int32) (k0 : Nat) (Rr : Int32 × (Nat → Nat → Int32)) (hn : ∀ k, (K k).1 < 99 → k < n) (hk0 : (K k0).1 = 6) (h : fn_MD_close K I k0 = some Rr) : fw_Mi l y_MD_close w_MD_close r_MD_close D aC g n K I [.ref (g k0)] Rr := by
  refine fw_ofGi (cc := b_MD_close) (maxL := 1) (ws' := fw_ws) (by decide +kernel) hn (Nat.le_of_ble_eq_true rfl) rfl ?_
  intro p e s m args below meth c A Q hC hN hA he
  have hF := hC.1
  have hw : ∀ w ∈ fw_ws, w.before args s = true := fun w hw => hF.2.2.2.2 w (List.mem_cons_of_mem _ hw)
  unfold fn_MD_close at h
  change fw_G p l e r_MD_close s m args below meth c 0 0 Q 1 D aC A g n K I 0 [(0, .ref (g k0))] []
  refine fx_aload_n (pc' := 1) hF d_MD_close_0 rfl 0 rfl rfl ?_
  refine fx_iconst (pc' := 2) hF (v := (0 : Int32)) d_MD_close_1 rfl rfl ?_
  obtain ⟨I1, eI1, h⟩ := fw_let_some h
  refine fx_puti (pc' := 5) hC hk0 (by decide) rfl iw_MD 0 (by decide) (by decide) rfl ty_MD tyok_MD nn_MD rfl eI1 (tyok_MD 0 (by decide)) rfl rfl (hw _ wq_3_116) rfl d_MD_close_2 rfl ?_
  refine fx_aload_n (pc' := 6) hF d_MD_close_5 rfl 0 rfl rfl ?_
  refine fx_geti (pc' := 9) hC hk0 (by decide) rfl iw_MD 14 (by decide) (by decide) rfl (hw _ wq_3_130) rfl d_MD_close_6 rfl ?_
  refine fx_if_ne hF (tgt := 19) (pc' := 12) d_MD_close_9 rfl rfl (fun q2 => ?_) (fun q2 => ?_)
  · rw [if_neg q2] at h
    refine fx_iconst (pc' := 20) hF (v := (0 : Int32)) d_MD_close_19 rfl rfl ?_
    exact he I1 _ _ rfl _ d_MD_close_20 h
  · rw [if_pos q2] at h
    refine fx_aload_n (pc' := 13) hF d_MD_close_12 rfl 0 rfl rfl ?_
    refine fx_geti (pc' := 16) hC hk0 (by decide) rfl iw_MD 9 (by decide) (by decide) rfl (hw _ wq_3_125) rfl d_MD_close_13 rfl ?_
    refine fx_if_eq hF (tgt := 21) (pc' := 19) d_MD_close_16 rfl rfl (fun q3 => ?_) (fun q3 => ?_)
    · rw [if_pos q3] at h
      refine fx_aload_n (pc' := 22) hF d_MD_close_21 rfl 0 rfl rfl ?_
      refine fx_iconst (pc' := 23) hF (v := (2 : Int32)) d_MD_close_22 rfl rfl ?_
      obtain ⟨I4, eI4, h⟩ := fw_let_some h
      refine fx_puti (pc' := 26) hC hk0 (by decide) rfl iw_MD 9 (by decide) (by decide) rfl ty_MD tyok_MD nn_MD rfl eI4 (tyok_MD 9 (by decide)) rfl rfl (hw _ wq_3_125) rfl d_MD_close_23 rfl ?_
      refine fx_aload_n (pc' := 27) hF d_MD_close_26 rfl 0 rfl rfl ?_
      refine fx_aload_n (pc' := 28) hF d_MD_close_27 rfl 0 rfl rfl ?_
      refine fx_geti (pc' := 31) hC hk0 (by decide) rfl iw_MD 16 (by decide) (by decide) rfl (hw _ wq_3_132) rfl d_MD_close_28 rfl ?_
      obtain ⟨I5, eI5, h⟩ := fw_let_some h
      refine fx_puti (pc' := 34) hC hk0 (by decide) rfl iw_MD 11 (by decide) (by decide) rfl ty_MD tyok_MD nn_MD rfl eI5 (tyok_MD 11 (by decide)) rfl rfl (hw _ wq_3_127) rfl d_MD_close_31 rfl ?_
      refine fx_aload_n (pc' := 35) hF d_MD_close_34 rfl 0 rfl rfl ?_
      refine fx_dup (pc' := 36) hF d_MD_close_35 rfl rfl ?_
      refine fx_geti (pc' := 39) hC hk0 (by decide) rfl iw_MD 10 (by decide) (by decide) rfl (hw _ wq_3_126) rfl d_MD_close_36 rfl ?_
      refine fx_iconst (pc' := 40) hF (v := (1 : Int32)) d_MD_close_39 rfl rfl ?_
      refine fx_iadd (pc' := 41) hF d_MD_close_40 rfl ?_
      obtain ⟨I6, eI6, h⟩ := fw_let_some h
      refine fx_puti (pc' := 44) hC hk0 (by decide) rfl iw_MD 10 (by decide) (by decide) rfl ty_MD tyok_MD nn_MD rfl eI6 (tyok_MD 10 (by decide)) rfl rfl (hw _ wq_3_126) rfl d_MD_close_41 rfl ?_
      refine fx_aload_n (pc' := 45) hF d_MD_close_44 rfl 0 rfl rfl ?_
      refine fx_iconst (pc' := 46) hF (v := (2 : Int32)) d_MD_close_45 rfl rfl ?_
      obtain ⟨I7, eI7, h⟩ := fw_let_some h
      refine fx_puti (pc' := 49) hC hk0 (by decide) rfl iw_MD 14 (by decide) (by decide) rfl ty_MD tyok_MD nn_MD rfl eI7 (tyok_MD 14 (by decide)) rfl rfl (hw _ wq_3_130) rfl d_MD_close_46 rfl ?_
      refine fx_iconst (pc' := 50) hF (v := (1 : Int32)) d_MD_close_49 rfl rfl ?_
      exact he I7 _ _ rfl _ d_MD_close_50 h
    · rw [if_neg q3] at h
      refine fx_iconst (pc' := 20) hF (v := (0 : Int32)) d_MD_close_19 rfl rfl ?_
      exact he I1 _ _ rfl _ d_MD_close_20 h
set_option maxHeartbeats 4000000 in
set_option maxRecDepth 100000 in
theorem ct_MD_leave (l : Launch) (D : va_G) (aC : Nat → ClassId) (g : Nat → Nat) (n : Nat) (K : Nat → Nat × Nat) (I : Nat → Nat → Int32) (k0 : Nat) (Rr : Int32 × (Nat → Nat → Int32)) (hn : ∀ k, (K k).1 < 99 → k < n) (hk0 : (K k0).1 = 6) (h : fn_MD_leave K I k0 = some Rr) : fw_Mi l y_MD_leave w_MD_leave r_MD_leave D aC g n K I [.ref (g k0)] Rr := by
  refine fw_ofGi (cc := b_MD_leave) (maxL := 2) (ws' := fw_ws) (by decide +kernel) hn (Nat.le_of_ble_eq_true rfl) rfl ?_
  intro p e s m args below meth c A Q hC hN hA he
  have hF := hC.1
  have hw : ∀ w ∈ fw_ws, w.before args s = true := fun w hw => hF.2.2.2.2 w (List.mem_cons_of_mem _ hw)
  unfold fn_MD_leave at h
  have B18 : ∀ (I : Nat → Nat → Int32) (s0 : Int32), fn_MD_leave_18 K I k0 s0 = some Rr → fw_G p l e r_MD_leave s m args below meth c 0 0 Q 2 D aC A g n K I 18 [(0, .ref (g k0))] [.int s0] := by
    intro I s0 h
    unfold fn_MD_leave_18 at h
    refine fx_istore_n (pc' := 19) hF (lv' := [(1, .int s0), (0, .ref (g k0))]) d_MD_leave_18 rfl (by decide) rfl rfl ?_
    refine fx_aload_n (pc' := 20) hF d_MD_leave_19 rfl 1 rfl rfl ?_
    refine fx_iconst (pc' := 21) hF (v := (3 : Int32)) d_MD_leave_20 rfl rfl ?_
    obtain ⟨I3, eI3, h⟩ := fw_let_some h
    refine fx_puti (pc' := 24) hC hk0 (by decide) rfl iw_MD 14 (by decide) (by decide) rfl ty_MD tyok_MD nn_MD rfl eI3 (tyok_MD 14 (by decide)) rfl rfl (hw _ wq_3_130) rfl d_MD_leave_21 rfl ?_
    refine fx_iload_n (pc' := 25) hF d_MD_leave_24 rfl 0 rfl rfl ?_
    refine fx_if_ne hF (tgt := 32) (pc' := 28) d_MD_leave_25 rfl rfl (fun q4 => ?_) (fun q4 => ?_)
    · rw [if_neg q4] at h
      refine fx_iconst (pc' := 33) hF (v := (0 : Int32)) d_MD_leave_32 rfl rfl ?_
      exact he I3 _ _ rfl _ d_MD_leave_33 h
    · rw [if_pos q4] at h
      refine fx_iconst (pc' := 29) hF (v := (1 : Int32)) d_MD_leave_28 rfl rfl ?_
      refine fx_goto hF (tgt := 33) d_MD_leave_29 rfl ?_
      exact he I3 _ _ rfl _ d_MD_leave_33 h
  change fw_G p l e r_MD_leave s m args below meth c 0 0 Q 2 D aC A g n K I 0 [(0, .ref (g k0))] []
  refine fx_aload_n (pc' := 1) hF d_MD_leave_0 rfl 0 rfl rfl ?_
  refine fx_iconst (pc' := 2) hF (v := (0 : Int32)) d_MD_leave_1 rfl rfl ?_
  obtain ⟨I1, eI1, h⟩ := fw_let_some h
  refine fx_puti (pc' := 5) hC hk0 (by decide) rfl iw_MD 0 (by decide) (by decide) rfl ty_MD tyok_MD nn_MD rfl eI1 (tyok_MD 0 (by decide)) rfl rfl (hw _ wq_3_116) rfl d_MD_leave_2 rfl ?_
  refine fx_aload_n (pc' := 6) hF d_MD_leave_5 rfl 0 rfl rfl ?_
  refine fx_geti (pc' := 9) hC hk0 (by decide) rfl iw_MD 14 (by decide) (by decide) rfl (hw _ wq_3_130) rfl d_MD_leave_6 rfl ?_
  refine fx_iconst (pc' := 10) hF (v := (3 : Int32)) d_MD_leave_9 rfl rfl ?_
  refine fx_icmp_ne hF (tgt := 17) (pc' := 13) d_MD_leave_10 rfl rfl (fun q2 => ?_) (fun q2 => ?_)
  · rw [if_neg q2] at h
    refine fx_iconst (pc' := 18) hF (v := (0 : Int32)) d_MD_leave_17 rfl rfl ?_
    exact B18 I1 (0 : Int32) h
  · rw [if_pos q2] at h
    refine fx_iconst (pc' := 14) hF (v := (1 : Int32)) d_MD_leave_13 rfl rfl ?_
    refine fx_goto hF (tgt := 18) d_MD_leave_14 rfl ?_
    exact B18 I1 (1 : Int32) h
set_option maxHeartbeats 4000000 in
set_option maxRecDepth 100000 in
theorem ct_MD_isRecoverer (l : Launch) (D : va_G) (aC : Nat → ClassId) (g : Nat → Nat) (n : Nat) (K : Nat → Nat × Nat) (I : Nat → Nat → Int32) (x0 : Int32) (Rr : Int32 × (Nat → Nat → Int32)) (hn : ∀ k, (K k).1 < 99 → k < n) (h : fn_MD_isRecoverer K I x0 = some Rr) : fw_Mi l y_MD_isRecoverer w_MD_isRecoverer r_MD_isRecoverer D aC g n K I [.int x0] Rr := by
  refine fw_ofGi (cc := b_MD_isRecoverer) (maxL := 1) (ws' := fw_ws) (by decide +kernel) hn (Nat.le_of_ble_eq_true rfl) rfl ?_
  intro p e s m args below meth c A Q hC hN hA he
  have hF := hC.1
  have hw : ∀ w ∈ fw_ws, w.before args s = true := fun w hw => hF.2.2.2.2 w (List.mem_cons_of_mem _ hw)
  unfold fn_MD_isRecoverer at h
  change fw_G p l e r_MD_isRecoverer s m args below meth c 0 0 Q 1 D aC A g n K I 0 [(0, .int x0)] []
  refine fx_iload_n (pc' := 1) hF d_MD_isRecoverer_0 rfl 0 rfl rfl ?_
  refine fx_iconst (pc' := 2) hF (v := (1 : Int32)) d_MD_isRecoverer_1 rfl rfl ?_
  refine fx_icmp_eq hF (tgt := 10) (pc' := 5) d_MD_isRecoverer_2 rfl rfl (fun q1 => ?_) (fun q1 => ?_)
  · rw [if_pos q1] at h
    refine fx_iconst (pc' := 11) hF (v := (1 : Int32)) d_MD_isRecoverer_10 rfl rfl ?_
    refine fx_goto hF (tgt := 15) d_MD_isRecoverer_11 rfl ?_
    exact he I _ _ rfl _ d_MD_isRecoverer_15 h
  · rw [if_neg q1] at h
    refine fx_iload_n (pc' := 6) hF d_MD_isRecoverer_5 rfl 0 rfl rfl ?_
    refine fx_iconst (pc' := 7) hF (v := (2 : Int32)) d_MD_isRecoverer_6 rfl rfl ?_
    refine fx_icmp_ne hF (tgt := 14) (pc' := 10) d_MD_isRecoverer_7 rfl rfl (fun q2 => ?_) (fun q2 => ?_)
    · rw [if_neg q2] at h
      refine fx_iconst (pc' := 15) hF (v := (0 : Int32)) d_MD_isRecoverer_14 rfl rfl ?_
      exact he I _ _ rfl _ d_MD_isRecoverer_15 h
    · rw [if_pos q2] at h
      refine fx_iconst (pc' := 11) hF (v := (1 : Int32)) d_MD_isRecoverer_10 rfl rfl ?_
      refine fx_goto hF (tgt := 15) d_MD_isRecoverer_11 rfl ?_
      exact he I _ _ rfl _ d_MD_isRecoverer_15 h
set_option maxHeartbeats 4000000 in
set_option maxRecDepth 100000 in
theorem ct_MD_recover (l : Launch) (D : va_G) (aC : Nat → ClassId) (g : Nat → Nat) (n : Nat) (K : Nat → Nat × Nat) (I : Nat → Nat → Int32) (k0 : Nat) (x1 : Int32) (Rr : Int32 × (Nat → Nat → Int32)) (hn : ∀ k, (K k).1 < 99 → k < n) (hk0 : (K k0).1 = 6) (h : fn_MD_recover K I k0 x1 = some Rr) : fw_Mi l y_MD_recover w_MD_recover r_MD_recover D aC g n K I [.ref (g k0), .int x1] Rr := by
  refine fw_ofGi (cc := b_MD_recover) (maxL := 3) (ws' := fw_ws) (by decide +kernel) hn (Nat.le_of_ble_eq_true rfl) rfl ?_
  intro p e s m args below meth c A Q hC hN hA he
  have hF := hC.1
  have hw : ∀ w ∈ fw_ws, w.before args s = true := fun w hw => hF.2.2.2.2 w (List.mem_cons_of_mem _ hw)
  unfold fn_MD_recover at h
  change fw_G p l e r_MD_recover s m args below meth c 0 0 Q 3 D aC A g n K I 0 [(0, .ref (g k0)), (1, .int x1)] []
  refine fx_aload_n (pc' := 1) hF d_MD_recover_0 rfl 0 rfl rfl ?_
  refine fx_iconst (pc' := 2) hF (v := (0 : Int32)) d_MD_recover_1 rfl rfl ?_
  obtain ⟨I1, eI1, h⟩ := fw_let_some h
  refine fx_puti (pc' := 5) hC hk0 (by decide) rfl iw_MD 0 (by decide) (by decide) rfl ty_MD tyok_MD nn_MD rfl eI1 (tyok_MD 0 (by decide)) rfl rfl (hw _ wq_3_116) rfl d_MD_recover_2 rfl ?_
  refine fx_iload_n (pc' := 6) hF d_MD_recover_5 rfl 1 rfl rfl ?_
  obtain ⟨r4, I2, c3, h⟩ := fw_bd_some h
  refine fx_callSi (pc' := 9) (As := [.int x1]) (st := []) hC hN hA (ct_MD_isRecoverer l D aC g n K I1 x1 (r4, I2) hn c3) (va_cwS 1 hF.2.2.2.2 (fw_gS wq_4_52 wq_4_53 wq_1_8 wq_4_54) rfl rfl rfl ⟨by decide +kernel, by decide +kernel, by decide +kernel⟩ ⟨Nat.le_of_ble_eq_true rfl, Nat.le_of_ble_eq_true rfl⟩) ⟨Nat.zero_le _, Nat.zero_le _⟩ rfl rfl (Nat.le_of_ble_eq_true rfl) d_MD_recover_6 rfl ?_
  refine fx_if_ne hF (tgt := 14) (pc' := 12) d_MD_recover_9 rfl rfl (fun q5 => ?_) (fun q5 => ?_)
  · rw [if_neg q5] at h
    refine fx_aload_n (pc' := 15) hF d_MD_recover_14 rfl 0 rfl rfl ?_
    obtain ⟨a6, na6, ea6, ka6, h⟩ := fw_ld_some h
    refine fx_getr (pc' := 18) hC hk0 (by decide) rfl iw_MD 19 (by decide) (by decide) rfl na6 ea6 (hw _ wq_3_135) rfl d_MD_recover_15 rfl ?_
    refine fx_iload_n (pc' := 19) hF d_MD_recover_18 rfl 1 rfl rfl ?_
    obtain ⟨q7, h⟩ := fw_gd_some h
    refine fx_iald (pc' := 20) hC ka6 q7 d_MD_recover_19 rfl ?_
    refine fx_if_eq hF (tgt := 25) (pc' := 23) d_MD_recover_20 rfl rfl (fun q8 => ?_) (fun q8 => ?_)
    · rw [if_pos q8] at h
      refine fx_aload_n (pc' := 26) hF d_MD_recover_25 rfl 0 rfl rfl ?_
      refine fx_geti (pc' := 29) hC hk0 (by decide) rfl iw_MD 9 (by decide) (by decide) rfl (hw _ wq_3_125) rfl d_MD_recover_26 rfl ?_
      refine fx_iconst (pc' := 30) hF (v := (2 : Int32)) d_MD_recover_29 rfl rfl ?_
      refine fx_icmp_ne hF (tgt := 42) (pc' := 33) d_MD_recover_30 rfl rfl (fun q9 => ?_) (fun q9 => ?_)
      · rw [if_neg q9] at h
        refine fx_aload_n (pc' := 43) hF d_MD_recover_42 rfl 0 rfl rfl ?_
        refine fx_iconst (pc' := 44) hF (v := (1 : Int32)) d_MD_recover_43 rfl rfl ?_
        obtain ⟨I10, eI10, h⟩ := fw_let_some h
        refine fx_puti (pc' := 47) hC hk0 (by decide) rfl iw_MD 9 (by decide) (by decide) rfl ty_MD tyok_MD nn_MD rfl eI10 (tyok_MD 9 (by decide)) rfl rfl (hw _ wq_3_125) rfl d_MD_recover_44 rfl ?_
        refine fx_aload_n (pc' := 48) hF d_MD_recover_47 rfl 0 rfl rfl ?_
        refine fx_dup (pc' := 49) hF d_MD_recover_48 rfl rfl ?_
        refine fx_geti (pc' := 52) hC hk0 (by decide) rfl iw_MD 10 (by decide) (by decide) rfl (hw _ wq_3_126) rfl d_MD_recover_49 rfl ?_
        refine fx_iconst (pc' := 53) hF (v := (1 : Int32)) d_MD_recover_52 rfl rfl ?_
        refine fx_iadd (pc' := 54) hF d_MD_recover_53 rfl ?_
        obtain ⟨I11, eI11, h⟩ := fw_let_some h
        refine fx_puti (pc' := 57) hC hk0 (by decide) rfl iw_MD 10 (by decide) (by decide) rfl ty_MD tyok_MD nn_MD rfl eI11 (tyok_MD 10 (by decide)) rfl rfl (hw _ wq_3_126) rfl d_MD_recover_54 rfl ?_
        refine fx_aload_n (pc' := 58) hF d_MD_recover_57 rfl 0 rfl rfl ?_
        obtain ⟨a12, na12, ea12, ka12, h⟩ := fw_ld_some h
        refine fx_getr (pc' := 61) hC hk0 (by decide) rfl iw_MD 20 (by decide) (by decide) rfl na12 ea12 (hw _ wq_3_136) rfl d_MD_recover_58 rfl ?_
        refine fx_iload_n (pc' := 62) hF d_MD_recover_61 rfl 1 rfl rfl ?_
        refine fx_aload_n (pc' := 63) hF d_MD_recover_62 rfl 0 rfl rfl ?_
        refine fx_geti (pc' := 66) hC hk0 (by decide) rfl iw_MD 10 (by decide) (by decide) rfl (hw _ wq_3_126) rfl d_MD_recover_63 rfl ?_
        obtain ⟨q13, h⟩ := fw_gd_some h
        obtain ⟨I14, eI14, h⟩ := fw_let_some h
        refine fx_iast (pc' := 67) hC ka12 q13 eI14 d_MD_recover_66 rfl ?_
        refine fx_aload_n (pc' := 68) hF d_MD_recover_67 rfl 0 rfl rfl ?_
        refine fx_iload_n (pc' := 69) hF d_MD_recover_68 rfl 1 rfl rfl ?_
        obtain ⟨I15, c16, h⟩ := fw_bv_some h
        refine fx_callVv (pc' := 72) (As := [.int x1]) (st := []) hC hN hA hk0 (by decide) rfl (ct_MD_forget l D aC g n K I14 k0 x1 I15 hn hk0 c16) (cwV 1 hF.2.2.2.2 (fw_gV wq_4_4 wq_4_6 wsel_MD_forget wq_1_8 wq_4_7) rfl rfl rfl ⟨rfl, by decide +kernel, by decide +kernel, by decide +kernel⟩ ⟨Nat.le_of_ble_eq_true rfl, Nat.le_of_ble_eq_true rfl⟩) ⟨Nat.zero_le _, Nat.zero_le _⟩ rfl rfl (Nat.le_of_ble_eq_true rfl) d_MD_recover_69 rfl ?_
        refine fx_aload_n (pc' := 73) hF d_MD_recover_72 rfl 0 rfl rfl ?_
        obtain ⟨a17, na17, ea17, ka17, h⟩ := fw_ld_some h
        refine fx_getr (pc' := 76) hC hk0 (by decide) rfl iw_MD 22 (by decide) (by decide) rfl na17 ea17 (hw _ wq_3_138) rfl d_MD_recover_73 rfl ?_
        refine fx_iload_n (pc' := 77) hF d_MD_recover_76 rfl 1 rfl rfl ?_
        refine fx_iconst (pc' := 78) hF (v := (-1 : Int32)) d_MD_recover_77 rfl rfl ?_
        obtain ⟨q18, h⟩ := fw_gd_some h
        obtain ⟨I19, eI19, h⟩ := fw_let_some h
        refine fx_iast (pc' := 79) hC ka17 q18 eI19 d_MD_recover_78 rfl ?_
        refine fx_aload_n (pc' := 80) hF d_MD_recover_79 rfl 0 rfl rfl ?_
        obtain ⟨a20, na20, ea20, ka20, h⟩ := fw_ld_some h
        refine fx_getr (pc' := 83) hC hk0 (by decide) rfl iw_MD 19 (by decide) (by decide) rfl na20 ea20 (hw _ wq_3_135) rfl d_MD_recover_80 rfl ?_
        refine fx_iload_n (pc' := 84) hF d_MD_recover_83 rfl 1 rfl rfl ?_
        refine fx_iconst (pc' := 85) hF (v := (1 : Int32)) d_MD_recover_84 rfl rfl ?_
        obtain ⟨q21, h⟩ := fw_gd_some h
        obtain ⟨I22, eI22, h⟩ := fw_let_some h
        refine fx_iast (pc' := 86) hC ka20 q21 eI22 d_MD_recover_85 rfl ?_
        refine fx_aload_n (pc' := 87) hF d_MD_recover_86 rfl 0 rfl rfl ?_
        refine fx_iload_n (pc' := 88) hF d_MD_recover_87 rfl 1 rfl rfl ?_
        obtain ⟨r25, I23, c24, h⟩ := fw_bd_some h
        refine fx_callVi (pc' := 91) (As := [.int x1]) (st := []) hC hN hA hk0 (by decide) rfl (ct_MD_ask l D aC g n K I22 k0 x1 (r25, I23) hn hk0 c24) (cwV 1 hF.2.2.2.2 (fw_gV wq_4_8 wq_4_10 wsel_MD_ask wq_1_8 wq_4_11) rfl rfl rfl ⟨rfl, by decide +kernel, by decide +kernel, by decide +kernel⟩ ⟨Nat.le_of_ble_eq_true rfl, Nat.le_of_ble_eq_true rfl⟩) ⟨Nat.zero_le _, Nat.zero_le _⟩ rfl rfl (Nat.le_of_ble_eq_true rfl) d_MD_recover_88 rfl ?_
        refine fx_istore_n (pc' := 92) hF (lv' := [(2, .int r25), (0, .ref (g k0)), (1, .int x1)]) d_MD_recover_91 rfl (by decide) rfl rfl ?_
        refine fx_iconst (pc' := 93) hF (v := (1 : Int32)) d_MD_recover_92 rfl rfl ?_
        exact he I23 _ _ rfl _ d_MD_recover_93 h
      · rw [if_pos q9] at h
        refine fx_aload_n (pc' := 34) hF d_MD_recover_33 rfl 0 rfl rfl ?_
        obtain ⟨a26, na26, ea26, ka26, h⟩ := fw_ld_some h
        refine fx_getr (pc' := 37) hC hk0 (by decide) rfl iw_MD 19 (by decide) (by decide) rfl na26 ea26 (hw _ wq_3_135) rfl d_MD_recover_34 rfl ?_
        refine fx_iload_n (pc' := 38) hF d_MD_recover_37 rfl 1 rfl rfl ?_
        refine fx_iconst (pc' := 39) hF (v := (4 : Int32)) d_MD_recover_38 rfl rfl ?_
        obtain ⟨q27, h⟩ := fw_gd_some h
        obtain ⟨I28, eI28, h⟩ := fw_let_some h
        refine fx_iast (pc' := 40) hC ka26 q27 eI28 d_MD_recover_39 rfl ?_
        refine fx_iconst (pc' := 41) hF (v := (1 : Int32)) d_MD_recover_40 rfl rfl ?_
        exact he I28 _ _ rfl _ d_MD_recover_41 h
    · rw [if_neg q8] at h
      refine fx_iconst (pc' := 24) hF (v := (0 : Int32)) d_MD_recover_23 rfl rfl ?_
      exact he I2 _ _ rfl _ d_MD_recover_24 h
  · rw [if_pos q5] at h
    refine fx_iconst (pc' := 13) hF (v := (0 : Int32)) d_MD_recover_12 rfl rfl ?_
    exact he I2 _ _ rfl _ d_MD_recover_13 h
set_option maxHeartbeats 4000000 in
set_option maxRecDepth 100000 in
theorem ct_MD_busy (l : Launch) (D : va_G) (aC : Nat → ClassId) (g : Nat → Nat) (n : Nat) (K : Nat → Nat × Nat) (I : Nat → Nat → Int32) (k0 : Nat) (x1 : Int32) (Rr : Int32 × (Nat → Nat → Int32)) (hn : ∀ k, (K k).1 < 99 → k < n) (hk0 : (K k0).1 = 6) (h : fn_MD_busy K I k0 x1 = some Rr) : fw_Mi l y_MD_busy w_MD_busy r_MD_busy D aC g n K I [.ref (g k0), .int x1] Rr := by
  refine fw_ofGi (cc := b_MD_busy) (maxL := 2) (ws' := fw_ws) (by decide +kernel) hn (Nat.le_of_ble_eq_true rfl) rfl ?_
  intro p e s m args below meth c A Q hC hN hA he
  have hF := hC.1
  have hw : ∀ w ∈ fw_ws, w.before args s = true := fun w hw => hF.2.2.2.2 w (List.mem_cons_of_mem _ hw)
  unfold fn_MD_busy at h
  change fw_G p l e r_MD_busy s m args below meth c 0 0 Q 2 D aC A g n K I 0 [(0, .ref (g k0)), (1, .int x1)] []
  refine fx_iload_n (pc' := 1) hF d_MD_busy_0 rfl 1 rfl rfl ?_
  obtain ⟨r3, I1, c2, h⟩ := fw_bd_some h
  refine fx_callSi (pc' := 4) (As := [.int x1]) (st := []) hC hN hA (ct_MD_isRecoverer l D aC g n K I x1 (r3, I1) hn c2) (va_cwS 1 hF.2.2.2.2 (fw_gS wq_4_52 wq_4_53 wq_1_8 wq_4_54) rfl rfl rfl ⟨by decide +kernel, by decide +kernel, by decide +kernel⟩ ⟨Nat.le_of_ble_eq_true rfl, Nat.le_of_ble_eq_true rfl⟩) ⟨Nat.zero_le _, Nat.zero_le _⟩ rfl rfl (Nat.le_of_ble_eq_true rfl) d_MD_busy_1 rfl ?_
  refine fx_if_eq hF (tgt := 52) (pc' := 7) d_MD_busy_4 rfl rfl (fun q4 => ?_) (fun q4 => ?_)
  · rw [if_pos q4] at h
    refine fx_iconst (pc' := 53) hF (v := (0 : Int32)) d_MD_busy_52 rfl rfl ?_
    exact he I1 _ _ rfl _ d_MD_busy_53 h
  · rw [if_neg q4] at h
    refine fx_aload_n (pc' := 8) hF d_MD_busy_7 rfl 0 rfl rfl ?_
    obtain ⟨a5, na5, ea5, ka5, h⟩ := fw_ld_some h
    refine fx_getr (pc' := 11) hC hk0 (by decide) rfl iw_MD 19 (by decide) (by decide) rfl na5 ea5 (hw _ wq_3_135) rfl d_MD_busy_8 rfl ?_
    refine fx_iload_n (pc' := 12) hF d_MD_busy_11 rfl 1 rfl rfl ?_
    obtain ⟨r8, I6, c7, h⟩ := fw_bd_some h
    refine fx_callSi (pc' := 15) (As := [.int x1]) (st := [.ref (g a5)]) hC hN hA (ct_MD_isRecoverer l D aC g n K I1 x1 (r8, I6) hn c7) (va_cwS 1 hF.2.2.2.2 (fw_gS wq_4_52 wq_4_53 wq_1_8 wq_4_54) rfl rfl rfl ⟨by decide +kernel, by decide +kernel, by decide +kernel⟩ ⟨Nat.le_of_ble_eq_true rfl, Nat.le_of_ble_eq_true rfl⟩) ⟨Nat.zero_le _, Nat.zero_le _⟩ rfl rfl (Nat.le_of_ble_eq_true rfl) d_MD_busy_12 rfl ?_
    refine fx_if_eq hF (tgt := 22) (pc' := 18) d_MD_busy_15 rfl rfl (fun q9 => ?_) (fun q9 => ?_)
    · rw [if_pos q9] at h
      refine fx_iconst (pc' := 23) hF (v := (0 : Int32)) d_MD_busy_22 rfl rfl ?_
      obtain ⟨q10, h⟩ := fw_gd_some h
      refine fx_iald (pc' := 24) hC ka5 q10 d_MD_busy_23 rfl ?_
      refine fx_if_le hF (tgt := 52) (pc' := 27) d_MD_busy_24 rfl rfl (fun q11 => ?_) (fun q11 => ?_)
      · rw [if_pos q11] at h
        refine fx_iconst (pc' := 53) hF (v := (0 : Int32)) d_MD_busy_52 rfl rfl ?_
        exact he I6 _ _ rfl _ d_MD_busy_53 h
      · rw [if_neg q11] at h
        refine fx_aload_n (pc' := 28) hF d_MD_busy_27 rfl 0 rfl rfl ?_
        obtain ⟨a12, na12, ea12, ka12, h⟩ := fw_ld_some h
        refine fx_getr (pc' := 31) hC hk0 (by decide) rfl iw_MD 19 (by decide) (by decide) rfl na12 ea12 (hw _ wq_3_135) rfl d_MD_busy_28 rfl ?_
        refine fx_iload_n (pc' := 32) hF d_MD_busy_31 rfl 1 rfl rfl ?_
        obtain ⟨r15, I13, c14, h⟩ := fw_bd_some h
        refine fx_callSi (pc' := 35) (As := [.int x1]) (st := [.ref (g a12)]) hC hN hA (ct_MD_isRecoverer l D aC g n K I6 x1 (r15, I13) hn c14) (va_cwS 1 hF.2.2.2.2 (fw_gS wq_4_52 wq_4_53 wq_1_8 wq_4_54) rfl rfl rfl ⟨by decide +kernel, by decide +kernel, by decide +kernel⟩ ⟨Nat.le_of_ble_eq_true rfl, Nat.le_of_ble_eq_true rfl⟩) ⟨Nat.zero_le _, Nat.zero_le _⟩ rfl rfl (Nat.le_of_ble_eq_true rfl) d_MD_busy_32 rfl ?_
        refine fx_if_eq hF (tgt := 42) (pc' := 38) d_MD_busy_35 rfl rfl (fun q16 => ?_) (fun q16 => ?_)
        · rw [if_pos q16] at h
          refine fx_iconst (pc' := 43) hF (v := (0 : Int32)) d_MD_busy_42 rfl rfl ?_
          obtain ⟨q17, h⟩ := fw_gd_some h
          refine fx_iald (pc' := 44) hC ka12 q17 d_MD_busy_43 rfl ?_
          refine fx_iconst (pc' := 45) hF (v := (4 : Int32)) d_MD_busy_44 rfl rfl ?_
          refine fx_icmp_ge hF (tgt := 52) (pc' := 48) d_MD_busy_45 rfl rfl (fun q18 => ?_) (fun q18 => ?_)
          · rw [if_pos q18] at h
            refine fx_iconst (pc' := 53) hF (v := (0 : Int32)) d_MD_busy_52 rfl rfl ?_
            exact he I13 _ _ rfl _ d_MD_busy_53 h
          · rw [if_neg q18] at h
            refine fx_iconst (pc' := 49) hF (v := (1 : Int32)) d_MD_busy_48 rfl rfl ?_
            refine fx_goto hF (tgt := 53) d_MD_busy_49 rfl ?_
            exact he I13 _ _ rfl _ d_MD_busy_53 h
        · rw [if_neg q16] at h
          refine fx_iload_n (pc' := 39) hF d_MD_busy_38 rfl 1 rfl rfl ?_
          refine fx_goto hF (tgt := 43) d_MD_busy_39 rfl ?_
          obtain ⟨q19, h⟩ := fw_gd_some h
          refine fx_iald (pc' := 44) hC ka12 q19 d_MD_busy_43 rfl ?_
          refine fx_iconst (pc' := 45) hF (v := (4 : Int32)) d_MD_busy_44 rfl rfl ?_
          refine fx_icmp_ge hF (tgt := 52) (pc' := 48) d_MD_busy_45 rfl rfl (fun q20 => ?_) (fun q20 => ?_)
          · rw [if_pos q20] at h
            refine fx_iconst (pc' := 53) hF (v := (0 : Int32)) d_MD_busy_52 rfl rfl ?_
            exact he I13 _ _ rfl _ d_MD_busy_53 h
          · rw [if_neg q20] at h
            refine fx_iconst (pc' := 49) hF (v := (1 : Int32)) d_MD_busy_48 rfl rfl ?_
            refine fx_goto hF (tgt := 53) d_MD_busy_49 rfl ?_
            exact he I13 _ _ rfl _ d_MD_busy_53 h
    · rw [if_neg q9] at h
      refine fx_iload_n (pc' := 19) hF d_MD_busy_18 rfl 1 rfl rfl ?_
      refine fx_goto hF (tgt := 23) d_MD_busy_19 rfl ?_
      obtain ⟨q21, h⟩ := fw_gd_some h
      refine fx_iald (pc' := 24) hC ka5 q21 d_MD_busy_23 rfl ?_
      refine fx_if_le hF (tgt := 52) (pc' := 27) d_MD_busy_24 rfl rfl (fun q22 => ?_) (fun q22 => ?_)
      · rw [if_pos q22] at h
        refine fx_iconst (pc' := 53) hF (v := (0 : Int32)) d_MD_busy_52 rfl rfl ?_
        exact he I6 _ _ rfl _ d_MD_busy_53 h
      · rw [if_neg q22] at h
        refine fx_aload_n (pc' := 28) hF d_MD_busy_27 rfl 0 rfl rfl ?_
        obtain ⟨a23, na23, ea23, ka23, h⟩ := fw_ld_some h
        refine fx_getr (pc' := 31) hC hk0 (by decide) rfl iw_MD 19 (by decide) (by decide) rfl na23 ea23 (hw _ wq_3_135) rfl d_MD_busy_28 rfl ?_
        refine fx_iload_n (pc' := 32) hF d_MD_busy_31 rfl 1 rfl rfl ?_
        obtain ⟨r26, I24, c25, h⟩ := fw_bd_some h
        refine fx_callSi (pc' := 35) (As := [.int x1]) (st := [.ref (g a23)]) hC hN hA (ct_MD_isRecoverer l D aC g n K I6 x1 (r26, I24) hn c25) (va_cwS 1 hF.2.2.2.2 (fw_gS wq_4_52 wq_4_53 wq_1_8 wq_4_54) rfl rfl rfl ⟨by decide +kernel, by decide +kernel, by decide +kernel⟩ ⟨Nat.le_of_ble_eq_true rfl, Nat.le_of_ble_eq_true rfl⟩) ⟨Nat.zero_le _, Nat.zero_le _⟩ rfl rfl (Nat.le_of_ble_eq_true rfl) d_MD_busy_32 rfl ?_
        refine fx_if_eq hF (tgt := 42) (pc' := 38) d_MD_busy_35 rfl rfl (fun q27 => ?_) (fun q27 => ?_)
        · rw [if_pos q27] at h
          refine fx_iconst (pc' := 43) hF (v := (0 : Int32)) d_MD_busy_42 rfl rfl ?_
          obtain ⟨q28, h⟩ := fw_gd_some h
          refine fx_iald (pc' := 44) hC ka23 q28 d_MD_busy_43 rfl ?_
          refine fx_iconst (pc' := 45) hF (v := (4 : Int32)) d_MD_busy_44 rfl rfl ?_
          refine fx_icmp_ge hF (tgt := 52) (pc' := 48) d_MD_busy_45 rfl rfl (fun q29 => ?_) (fun q29 => ?_)
          · rw [if_pos q29] at h
            refine fx_iconst (pc' := 53) hF (v := (0 : Int32)) d_MD_busy_52 rfl rfl ?_
            exact he I24 _ _ rfl _ d_MD_busy_53 h
          · rw [if_neg q29] at h
            refine fx_iconst (pc' := 49) hF (v := (1 : Int32)) d_MD_busy_48 rfl rfl ?_
            refine fx_goto hF (tgt := 53) d_MD_busy_49 rfl ?_
            exact he I24 _ _ rfl _ d_MD_busy_53 h
        · rw [if_neg q27] at h
          refine fx_iload_n (pc' := 39) hF d_MD_busy_38 rfl 1 rfl rfl ?_
          refine fx_goto hF (tgt := 43) d_MD_busy_39 rfl ?_
          obtain ⟨q30, h⟩ := fw_gd_some h
          refine fx_iald (pc' := 44) hC ka23 q30 d_MD_busy_43 rfl ?_
          refine fx_iconst (pc' := 45) hF (v := (4 : Int32)) d_MD_busy_44 rfl rfl ?_
          refine fx_icmp_ge hF (tgt := 52) (pc' := 48) d_MD_busy_45 rfl rfl (fun q31 => ?_) (fun q31 => ?_)
          · rw [if_pos q31] at h
            refine fx_iconst (pc' := 53) hF (v := (0 : Int32)) d_MD_busy_52 rfl rfl ?_
            exact he I24 _ _ rfl _ d_MD_busy_53 h
          · rw [if_neg q31] at h
            refine fx_iconst (pc' := 49) hF (v := (1 : Int32)) d_MD_busy_48 rfl rfl ?_
            refine fx_goto hF (tgt := 53) d_MD_busy_49 rfl ?_
            exact he I24 _ _ rfl _ d_MD_busy_53 h
set_option maxHeartbeats 4000000 in
set_option maxRecDepth 100000 in
theorem ct_MD_retry (l : Launch) (D : va_G) (aC : Nat → ClassId) (g : Nat → Nat) (n : Nat) (K : Nat → Nat × Nat) (I : Nat → Nat → Int32) (k0 : Nat) (x1 : Int32) (Rr : Int32 × (Nat → Nat → Int32)) (hn : ∀ k, (K k).1 < 99 → k < n) (hk0 : (K k0).1 = 6) (h : fn_MD_retry K I k0 x1 = some Rr) : fw_Mi l y_MD_retry w_MD_retry r_MD_retry D aC g n K I [.ref (g k0), .int x1] Rr := by
  refine fw_ofGi (cc := b_MD_retry) (maxL := 2) (ws' := fw_ws) (by decide +kernel) hn (Nat.le_of_ble_eq_true rfl) rfl ?_
  intro p e s m args below meth c A Q hC hN hA he
  have hF := hC.1
  have hw : ∀ w ∈ fw_ws, w.before args s = true := fun w hw => hF.2.2.2.2 w (List.mem_cons_of_mem _ hw)
  unfold fn_MD_retry at h
  change fw_G p l e r_MD_retry s m args below meth c 0 0 Q 2 D aC A g n K I 0 [(0, .ref (g k0)), (1, .int x1)] []
  refine fx_aload_n (pc' := 1) hF d_MD_retry_0 rfl 0 rfl rfl ?_
  refine fx_iconst (pc' := 2) hF (v := (0 : Int32)) d_MD_retry_1 rfl rfl ?_
  obtain ⟨I1, eI1, h⟩ := fw_let_some h
  refine fx_puti (pc' := 5) hC hk0 (by decide) rfl iw_MD 0 (by decide) (by decide) rfl ty_MD tyok_MD nn_MD rfl eI1 (tyok_MD 0 (by decide)) rfl rfl (hw _ wq_3_116) rfl d_MD_retry_2 rfl ?_
  refine fx_aload_n (pc' := 6) hF d_MD_retry_5 rfl 0 rfl rfl ?_
  refine fx_iload_n (pc' := 7) hF d_MD_retry_6 rfl 1 rfl rfl ?_
  obtain ⟨r4, I2, c3, h⟩ := fw_bd_some h
  refine fx_callVi (pc' := 10) (As := [.int x1]) (st := []) hC hN hA hk0 (by decide) rfl (ct_MD_busy l D aC g n K I1 k0 x1 (r4, I2) hn hk0 c3) (cwV 1 hF.2.2.2.2 (fw_gV wq_4_59 wq_4_61 wsel_MD_busy wq_1_8 wq_4_62) rfl rfl rfl ⟨rfl, by decide +kernel, by decide +kernel, by decide +kernel⟩ ⟨Nat.le_of_ble_eq_true rfl, Nat.le_of_ble_eq_true rfl⟩) ⟨Nat.zero_le _, Nat.zero_le _⟩ rfl rfl (Nat.le_of_ble_eq_true rfl) d_MD_retry_7 rfl ?_
  refine fx_if_eq hF (tgt := 21) (pc' := 13) d_MD_retry_10 rfl rfl (fun q5 => ?_) (fun q5 => ?_)
  · rw [if_pos q5] at h
    refine fx_iconst (pc' := 22) hF (v := (-1 : Int32)) d_MD_retry_21 rfl rfl ?_
    exact he I2 _ _ rfl _ d_MD_retry_22 h
  · rw [if_neg q5] at h
    refine fx_aload_n (pc' := 14) hF d_MD_retry_13 rfl 0 rfl rfl ?_
    refine fx_iload_n (pc' := 15) hF d_MD_retry_14 rfl 1 rfl rfl ?_
    obtain ⟨r8, I6, c7, h⟩ := fw_bd_some h
    refine fx_callVi (pc' := 18) (As := [.int x1]) (st := []) hC hN hA hk0 (by decide) rfl (ct_MD_ask l D aC g n K I2 k0 x1 (r8, I6) hn hk0 c7) (cwV 1 hF.2.2.2.2 (fw_gV wq_4_8 wq_4_10 wsel_MD_ask wq_1_8 wq_4_11) rfl rfl rfl ⟨rfl, by decide +kernel, by decide +kernel, by decide +kernel⟩ ⟨Nat.le_of_ble_eq_true rfl, Nat.le_of_ble_eq_true rfl⟩) ⟨Nat.zero_le _, Nat.zero_le _⟩ rfl rfl (Nat.le_of_ble_eq_true rfl) d_MD_retry_15 rfl ?_
    refine fx_goto hF (tgt := 22) d_MD_retry_18 rfl ?_
    exact he I6 _ _ rfl _ d_MD_retry_22 h
set_option maxHeartbeats 4000000 in
set_option maxRecDepth 100000 in
theorem ct_MD_abandon (l : Launch) (D : va_G) (aC : Nat → ClassId) (g : Nat → Nat) (n : Nat) (K : Nat → Nat × Nat) (I : Nat → Nat → Int32) (k0 : Nat) (x1 : Int32) (Rr : Int32 × (Nat → Nat → Int32)) (hn : ∀ k, (K k).1 < 99 → k < n) (hk0 : (K k0).1 = 6) (h : fn_MD_abandon K I k0 x1 = some Rr) : fw_Mi l y_MD_abandon w_MD_abandon r_MD_abandon D aC g n K I [.ref (g k0), .int x1] Rr := by
  refine fw_ofGi (cc := b_MD_abandon) (maxL := 2) (ws' := fw_ws) (by decide +kernel) hn (Nat.le_of_ble_eq_true rfl) rfl ?_
  intro p e s m args below meth c A Q hC hN hA he
  have hF := hC.1
  have hw : ∀ w ∈ fw_ws, w.before args s = true := fun w hw => hF.2.2.2.2 w (List.mem_cons_of_mem _ hw)
  unfold fn_MD_abandon at h
  change fw_G p l e r_MD_abandon s m args below meth c 0 0 Q 2 D aC A g n K I 0 [(0, .ref (g k0)), (1, .int x1)] []
  refine fx_aload_n (pc' := 1) hF d_MD_abandon_0 rfl 0 rfl rfl ?_
  refine fx_iconst (pc' := 2) hF (v := (0 : Int32)) d_MD_abandon_1 rfl rfl ?_
  obtain ⟨I1, eI1, h⟩ := fw_let_some h
  refine fx_puti (pc' := 5) hC hk0 (by decide) rfl iw_MD 0 (by decide) (by decide) rfl ty_MD tyok_MD nn_MD rfl eI1 (tyok_MD 0 (by decide)) rfl rfl (hw _ wq_3_116) rfl d_MD_abandon_2 rfl ?_
  refine fx_aload_n (pc' := 6) hF d_MD_abandon_5 rfl 0 rfl rfl ?_
  refine fx_iload_n (pc' := 7) hF d_MD_abandon_6 rfl 1 rfl rfl ?_
  obtain ⟨r4, I2, c3, h⟩ := fw_bd_some h
  refine fx_callVi (pc' := 10) (As := [.int x1]) (st := []) hC hN hA hk0 (by decide) rfl (ct_MD_busy l D aC g n K I1 k0 x1 (r4, I2) hn hk0 c3) (cwV 1 hF.2.2.2.2 (fw_gV wq_4_59 wq_4_61 wsel_MD_busy wq_1_8 wq_4_62) rfl rfl rfl ⟨rfl, by decide +kernel, by decide +kernel, by decide +kernel⟩ ⟨Nat.le_of_ble_eq_true rfl, Nat.le_of_ble_eq_true rfl⟩) ⟨Nat.zero_le _, Nat.zero_le _⟩ rfl rfl (Nat.le_of_ble_eq_true rfl) d_MD_abandon_7 rfl ?_
  refine fx_if_ne hF (tgt := 15) (pc' := 13) d_MD_abandon_10 rfl rfl (fun q5 => ?_) (fun q5 => ?_)
  · rw [if_neg q5] at h
    refine fx_aload_n (pc' := 16) hF d_MD_abandon_15 rfl 0 rfl rfl ?_
    obtain ⟨a6, na6, ea6, ka6, h⟩ := fw_ld_some h
    refine fx_getr (pc' := 19) hC hk0 (by decide) rfl iw_MD 19 (by decide) (by decide) rfl na6 ea6 (hw _ wq_3_135) rfl d_MD_abandon_16 rfl ?_
    refine fx_iload_n (pc' := 20) hF d_MD_abandon_19 rfl 1 rfl rfl ?_
    refine fx_iconst (pc' := 21) hF (v := (0 : Int32)) d_MD_abandon_20 rfl rfl ?_
    obtain ⟨q7, h⟩ := fw_gd_some h
    obtain ⟨I8, eI8, h⟩ := fw_let_some h
    refine fx_iast (pc' := 22) hC ka6 q7 eI8 d_MD_abandon_21 rfl ?_
    refine fx_iconst (pc' := 23) hF (v := (1 : Int32)) d_MD_abandon_22 rfl rfl ?_
    exact he I8 _ _ rfl _ d_MD_abandon_23 h
  · rw [if_pos q5] at h
    refine fx_iconst (pc' := 14) hF (v := (0 : Int32)) d_MD_abandon_13 rfl rfl ?_
    exact he I2 _ _ rfl _ d_MD_abandon_14 h
set_option maxHeartbeats 4000000 in
set_option maxRecDepth 100000 in
theorem ct_MD_isStore (l : Launch) (D : va_G) (aC : Nat → ClassId) (g : Nat → Nat) (n : Nat) (K : Nat → Nat × Nat) (I : Nat → Nat → Int32) (k0 : Nat) (x1 : Int32) (Rr : Int32 × (Nat → Nat → Int32)) (hn : ∀ k, (K k).1 < 99 → k < n) (hk0 : (K k0).1 = 6) (h : fn_MD_isStore K I k0 x1 = some Rr) : fw_Mi l y_MD_isStore w_MD_isStore r_MD_isStore D aC g n K I [.ref (g k0), .int x1] Rr := by
  refine fw_ofGi (cc := b_MD_isStore) (maxL := 2) (ws' := fw_ws) (by decide +kernel) hn (Nat.le_of_ble_eq_true rfl) rfl ?_
  intro p e s m args below meth c A Q hC hN hA he
  have hF := hC.1
  have hw : ∀ w ∈ fw_ws, w.before args s = true := fun w hw => hF.2.2.2.2 w (List.mem_cons_of_mem _ hw)
  unfold fn_MD_isStore at h
  change fw_G p l e r_MD_isStore s m args below meth c 0 0 Q 2 D aC A g n K I 0 [(0, .ref (g k0)), (1, .int x1)] []
  refine fx_iload_n (pc' := 1) hF d_MD_isStore_0 rfl 1 rfl rfl ?_
  refine fx_if_lt hF (tgt := 16) (pc' := 4) d_MD_isStore_1 rfl rfl (fun q1 => ?_) (fun q1 => ?_)
  · rw [if_pos q1] at h
    refine fx_iconst (pc' := 17) hF (v := (0 : Int32)) d_MD_isStore_16 rfl rfl ?_
    exact he I _ _ rfl _ d_MD_isStore_17 h
  · rw [if_neg q1] at h
    refine fx_iload_n (pc' := 5) hF d_MD_isStore_4 rfl 1 rfl rfl ?_
    refine fx_aload_n (pc' := 6) hF d_MD_isStore_5 rfl 0 rfl rfl ?_
    refine fx_geti (pc' := 9) hC hk0 (by decide) rfl iw_MD 1 (by decide) (by decide) rfl (hw _ wq_3_117) rfl d_MD_isStore_6 rfl ?_
    refine fx_icmp_ge hF (tgt := 16) (pc' := 12) d_MD_isStore_9 rfl rfl (fun q2 => ?_) (fun q2 => ?_)
    · rw [if_pos q2] at h
      refine fx_iconst (pc' := 17) hF (v := (0 : Int32)) d_MD_isStore_16 rfl rfl ?_
      exact he I _ _ rfl _ d_MD_isStore_17 h
    · rw [if_neg q2] at h
      refine fx_iconst (pc' := 13) hF (v := (1 : Int32)) d_MD_isStore_12 rfl rfl ?_
      refine fx_goto hF (tgt := 17) d_MD_isStore_13 rfl ?_
      exact he I _ _ rfl _ d_MD_isStore_17 h
set_option maxHeartbeats 4000000 in
set_option maxRecDepth 100000 in
theorem ct_MD_power (l : Launch) (D : va_G) (aC : Nat → ClassId) (g : Nat → Nat) (n : Nat) (K : Nat → Nat × Nat) (I : Nat → Nat → Int32) (k0 : Nat) (x1 : Int32) (x2 : Int32) (Rr : Int32 × (Nat → Nat → Int32)) (hn : ∀ k, (K k).1 < 99 → k < n) (hk0 : (K k0).1 = 6) (h : fn_MD_power K I k0 x1 x2 = some Rr) : fw_Mi l y_MD_power w_MD_power r_MD_power D aC g n K I [.ref (g k0), .int x1, .int x2] Rr := by
  refine fw_ofGi (cc := b_MD_power) (maxL := 4) (ws' := fw_ws) (by decide +kernel) hn (Nat.le_of_ble_eq_true rfl) rfl ?_
  intro p e s m args below meth c A Q hC hN hA he
  have hF := hC.1
  have hw : ∀ w ∈ fw_ws, w.before args s = true := fun w hw => hF.2.2.2.2 w (List.mem_cons_of_mem _ hw)
  unfold fn_MD_power at h
  have B30 : ∀ (I : Nat → Nat → Int32) (x1 : Int32) (x2 : Int32) (s0 : Int32), fn_MD_power_30 K I k0 x1 x2 s0 = some Rr → fw_G p l e r_MD_power s m args below meth c 0 0 Q 4 D aC A g n K I 30 [(0, .ref (g k0)), (1, .int x1), (2, .int x2)] [.int s0] := by
    intro I x1 x2 s0 h
    unfold fn_MD_power_30 at h
    refine fx_istore_n (pc' := 31) hF (lv' := [(3, .int s0), (0, .ref (g k0)), (1, .int x1), (2, .int x2)]) d_MD_power_30 rfl (by decide) rfl rfl ?_
    refine fx_aload_n (pc' := 32) hF d_MD_power_31 rfl 1 rfl rfl ?_
    obtain ⟨a9, na9, ea9, ka9, h⟩ := fw_ld_some h
    refine fx_getr (pc' := 35) hC hk0 (by decide) rfl iw_MD 4 (by decide) (by decide) rfl na9 ea9 (hw _ wq_3_120) rfl d_MD_power_32 rfl ?_
    refine fx_iload_n (pc' := 36) hF d_MD_power_35 rfl 2 rfl rfl ?_
    refine fx_iload_n (pc' := 37) hF d_MD_power_36 rfl 3 rfl rfl ?_
    refine fx_if_ne hF (tgt := 44) (pc' := 40) d_MD_power_37 rfl rfl (fun q10 => ?_) (fun q10 => ?_)
    · rw [if_neg q10] at h
      refine fx_iconst (pc' := 45) hF (v := (0 : Int32)) d_MD_power_44 rfl rfl ?_
      obtain ⟨q11, h⟩ := fw_gd_some h
      obtain ⟨I12, eI12, h⟩ := fw_let_some h
      refine fx_zast (pc' := 46) hC ka9 q11 rfl eI12 d_MD_power_45 rfl ?_
      refine fx_iload_n (pc' := 47) hF d_MD_power_46 rfl 0 rfl rfl ?_
      obtain ⟨q13, h⟩ := fw_gd_some h
      exact he I12 _ _ (fw_nz q13).1 _ d_MD_power_47 h
    · rw [if_pos q10] at h
      refine fx_iconst (pc' := 41) hF (v := (1 : Int32)) d_MD_power_40 rfl rfl ?_
      refine fx_goto hF (tgt := 45) d_MD_power_41 rfl ?_
      obtain ⟨q14, h⟩ := fw_gd_some h
      obtain ⟨I15, eI15, h⟩ := fw_let_some h
      refine fx_zast (pc' := 46) hC ka9 q14 rfl eI15 d_MD_power_45 rfl ?_
      refine fx_iload_n (pc' := 47) hF d_MD_power_46 rfl 0 rfl rfl ?_
      obtain ⟨q16, h⟩ := fw_gd_some h
      exact he I15 _ _ (fw_nz q16).1 _ d_MD_power_47 h
  change fw_G p l e r_MD_power s m args below meth c 0 0 Q 4 D aC A g n K I 0 [(0, .ref (g k0)), (1, .int x1), (2, .int x2)] []
  refine fx_aload_n (pc' := 1) hF d_MD_power_0 rfl 0 rfl rfl ?_
  refine fx_iconst (pc' := 2) hF (v := (0 : Int32)) d_MD_power_1 rfl rfl ?_
  obtain ⟨I1, eI1, h⟩ := fw_let_some h
  refine fx_puti (pc' := 5) hC hk0 (by decide) rfl iw_MD 0 (by decide) (by decide) rfl ty_MD tyok_MD nn_MD rfl eI1 (tyok_MD 0 (by decide)) rfl rfl (hw _ wq_3_116) rfl d_MD_power_2 rfl ?_
  refine fx_aload_n (pc' := 6) hF d_MD_power_5 rfl 0 rfl rfl ?_
  refine fx_iload_n (pc' := 7) hF d_MD_power_6 rfl 1 rfl rfl ?_
  obtain ⟨r4, I2, c3, h⟩ := fw_bd_some h
  refine fx_callVi (pc' := 10) (As := [.int x1]) (st := []) hC hN hA hk0 (by decide) rfl (ct_MD_isStore l D aC g n K I1 k0 x1 (r4, I2) hn hk0 c3) (cwV 1 hF.2.2.2.2 (fw_gV wq_4_71 wq_4_73 wsel_MD_isStore wq_1_8 wq_4_74) rfl rfl rfl ⟨rfl, by decide +kernel, by decide +kernel, by decide +kernel⟩ ⟨Nat.le_of_ble_eq_true rfl, Nat.le_of_ble_eq_true rfl⟩) ⟨Nat.zero_le _, Nat.zero_le _⟩ rfl rfl (Nat.le_of_ble_eq_true rfl) d_MD_power_7 rfl ?_
  refine fx_if_ne hF (tgt := 15) (pc' := 13) d_MD_power_10 rfl rfl (fun q5 => ?_) (fun q5 => ?_)
  · rw [if_neg q5] at h
    refine fx_aload_n (pc' := 16) hF d_MD_power_15 rfl 0 rfl rfl ?_
    obtain ⟨a6, na6, ea6, ka6, h⟩ := fw_ld_some h
    refine fx_getr (pc' := 19) hC hk0 (by decide) rfl iw_MD 4 (by decide) (by decide) rfl na6 ea6 (hw _ wq_3_120) rfl d_MD_power_16 rfl ?_
    refine fx_iload_n (pc' := 20) hF d_MD_power_19 rfl 1 rfl rfl ?_
    obtain ⟨q7, h⟩ := fw_gd_some h
    refine fx_zald (pc' := 21) hC ka6 q7 d_MD_power_20 rfl ?_
    refine fx_iload_n (pc' := 22) hF d_MD_power_21 rfl 2 rfl rfl ?_
    refine fx_icmp_ne hF (tgt := 29) (pc' := 25) d_MD_power_22 rfl rfl (fun q8 => ?_) (fun q8 => ?_)
    · rw [if_neg q8] at h
      refine fx_iconst (pc' := 30) hF (v := (0 : Int32)) d_MD_power_29 rfl rfl ?_
      exact B30 I2 x1 x2 (0 : Int32) h
    · rw [if_pos q8] at h
      refine fx_iconst (pc' := 26) hF (v := (1 : Int32)) d_MD_power_25 rfl rfl ?_
      refine fx_goto hF (tgt := 30) d_MD_power_26 rfl ?_
      exact B30 I2 x1 x2 (1 : Int32) h
  · rw [if_pos q5] at h
    refine fx_iconst (pc' := 14) hF (v := (0 : Int32)) d_MD_power_13 rfl rfl ?_
    exact he I2 _ _ rfl _ d_MD_power_14 h
set_option maxHeartbeats 4000000 in
set_option maxRecDepth 100000 in
theorem ct_MD_store (l : Launch) (D : va_G) (aC : Nat → ClassId) (g : Nat → Nat) (n : Nat) (K : Nat → Nat × Nat) (I : Nat → Nat → Int32) (k0 : Nat) (x1 : Int32) (x2 : Int32) (Rr : Int32 × (Nat → Nat → Int32)) (hn : ∀ k, (K k).1 < 99 → k < n) (hk0 : (K k0).1 = 6) (h : fn_MD_store K I k0 x1 x2 = some Rr) : fw_Mi l y_MD_store w_MD_store r_MD_store D aC g n K I [.ref (g k0), .int x1, .int x2] Rr := by
  refine fw_ofGi (cc := b_MD_store) (maxL := 5) (ws' := fw_ws) (by decide +kernel) hn (Nat.le_of_ble_eq_true rfl) rfl ?_
  intro p e s m args below meth c A Q hC hN hA he
  have hF := hC.1
  have hw : ∀ w ∈ fw_ws, w.before args s = true := fun w hw => hF.2.2.2.2 w (List.mem_cons_of_mem _ hw)
  unfold fn_MD_store at h
  have B34 : ∀ (f : Nat) (I : Nat → Nat → Int32) (x1 : Int32) (x3 : Int32) (x4 : Int32), fn_MD_store_34 K f I k0 x1 x3 x4 = some Rr → fw_G p l e r_MD_store s m args below meth c 0 0 Q 5 D aC A g n K I 34 [(0, .ref (g k0)), (1, .int x1), (3, .int x3), (4, .int x4)] [] := by
    intro f
    induction f with
    | zero =>
      intro I x1 x3 x4 h
      rw [fn_MD_store_34] at h
      cases h
    | succ f ih =>
      intro I x1 x3 x4 h
      rw [fn_MD_store_34] at h
      refine fx_iload (pc' := 36) hF d_MD_store_34 3 rfl rfl ?_
      refine fx_bipush (pc' := 38) hF (v := (20 : Int32)) d_MD_store_36 rfl rfl ?_
      refine fx_icmp_ge hF (tgt := 70) (pc' := 41) d_MD_store_38 rfl rfl (fun q19 => ?_) (fun q19 => ?_)
      · rw [if_pos q19] at h
        refine fx_iload_n (pc' := 71) hF d_MD_store_70 rfl 2 rfl rfl ?_
        exact he I _ _ rfl _ d_MD_store_71 h
      · rw [if_neg q19] at h
        refine fx_iload_n (pc' := 42) hF d_MD_store_41 rfl 2 rfl rfl ?_
        refine fx_aload_n (pc' := 43) hF d_MD_store_42 rfl 0 rfl rfl ?_
        obtain ⟨a20, na20, ea20, ka20, h⟩ := fw_ld_some h
        refine fx_getr (pc' := 46) hC hk0 (by decide) rfl iw_MD 7 (by decide) (by decide) rfl na20 ea20 (hw _ wq_3_123) rfl d_MD_store_43 rfl ?_
        refine fx_bipush (pc' := 48) hF (v := (20 : Int32)) d_MD_store_46 rfl rfl ?_
        refine fx_iload_n (pc' := 49) hF d_MD_store_48 rfl 1 rfl rfl ?_
        refine fx_imul (pc' := 50) hF d_MD_store_49 rfl ?_
        refine fx_iload (pc' := 52) hF d_MD_store_50 3 rfl rfl ?_
        refine fx_iadd (pc' := 53) hF d_MD_store_52 rfl ?_
        obtain ⟨q21, h⟩ := fw_gd_some h
        refine fx_zald (pc' := 54) hC ka20 q21 d_MD_store_53 rfl ?_
        refine fx_if_eq hF (tgt := 61) (pc' := 57) d_MD_store_54 rfl rfl (fun q22 => ?_) (fun q22 => ?_)
        · rw [if_pos q22] at h
          refine fx_iconst (pc' := 62) hF (v := (0 : Int32)) d_MD_store_61 rfl rfl ?_
          refine fx_iadd (pc' := 63) hF d_MD_store_62 rfl ?_
          refine fx_istore_n (pc' := 64) hF (lv' := [(3, .int (x3 + (0 : Int32))), (0, .ref (g k0)), (1, .int x1), (4, .int x4)]) d_MD_store_63 rfl (by decide) rfl rfl ?_
          refine fx_iinc (pc' := 67) hF (v := x4 + 1) (lv' := [(4, .int (x4 + 1)), (3, .int (x3 + (0 : Int32))), (0, .ref (g k0)), (1, .int x1)]) d_MD_store_64 3 rfl rfl (by decide) rfl rfl ?_
          refine fx_goto hF (tgt := 34) d_MD_store_67 rfl ?_
          refine fx_lv [2, 3, 1, 0] rfl ?_
          exact ih I x1 (x3 + (0 : Int32)) (x4 + 1) h
        · rw [if_neg q22] at h
          refine fx_iconst (pc' := 58) hF (v := (1 : Int32)) d_MD_store_57 rfl rfl ?_
          refine fx_goto hF (tgt := 62) d_MD_store_58 rfl ?_
          refine fx_iadd (pc' := 63) hF d_MD_store_62 rfl ?_
          refine fx_istore_n (pc' := 64) hF (lv' := [(3, .int (x3 + (1 : Int32))), (0, .ref (g k0)), (1, .int x1), (4, .int x4)]) d_MD_store_63 rfl (by decide) rfl rfl ?_
          refine fx_iinc (pc' := 67) hF (v := x4 + 1) (lv' := [(4, .int (x4 + 1)), (3, .int (x3 + (1 : Int32))), (0, .ref (g k0)), (1, .int x1)]) d_MD_store_64 3 rfl rfl (by decide) rfl rfl ?_
          refine fx_goto hF (tgt := 34) d_MD_store_67 rfl ?_
          refine fx_lv [2, 3, 1, 0] rfl ?_
          exact ih I x1 (x3 + (1 : Int32)) (x4 + 1) h
  change fw_G p l e r_MD_store s m args below meth c 0 0 Q 5 D aC A g n K I 0 [(0, .ref (g k0)), (1, .int x1), (2, .int x2)] []
  refine fx_aload_n (pc' := 1) hF d_MD_store_0 rfl 0 rfl rfl ?_
  refine fx_iconst (pc' := 2) hF (v := (0 : Int32)) d_MD_store_1 rfl rfl ?_
  obtain ⟨I1, eI1, h⟩ := fw_let_some h
  refine fx_puti (pc' := 5) hC hk0 (by decide) rfl iw_MD 0 (by decide) (by decide) rfl ty_MD tyok_MD nn_MD rfl eI1 (tyok_MD 0 (by decide)) rfl rfl (hw _ wq_3_116) rfl d_MD_store_2 rfl ?_
  refine fx_aload_n (pc' := 6) hF d_MD_store_5 rfl 0 rfl rfl ?_
  refine fx_iload_n (pc' := 7) hF d_MD_store_6 rfl 1 rfl rfl ?_
  obtain ⟨r4, I2, c3, h⟩ := fw_bd_some h
  refine fx_callVi (pc' := 10) (As := [.int x1]) (st := []) hC hN hA hk0 (by decide) rfl (ct_MD_isStore l D aC g n K I1 k0 x1 (r4, I2) hn hk0 c3) (cwV 1 hF.2.2.2.2 (fw_gV wq_4_71 wq_4_73 wsel_MD_isStore wq_1_8 wq_4_74) rfl rfl rfl ⟨rfl, by decide +kernel, by decide +kernel, by decide +kernel⟩ ⟨Nat.le_of_ble_eq_true rfl, Nat.le_of_ble_eq_true rfl⟩) ⟨Nat.zero_le _, Nat.zero_le _⟩ rfl rfl (Nat.le_of_ble_eq_true rfl) d_MD_store_7 rfl ?_
  refine fx_if_eq hF (tgt := 22) (pc' := 13) d_MD_store_10 rfl rfl (fun q5 => ?_) (fun q5 => ?_)
  · rw [if_pos q5] at h
    refine fx_iconst (pc' := 23) hF (v := (-1 : Int32)) d_MD_store_22 rfl rfl ?_
    exact he I2 _ _ rfl _ d_MD_store_23 h
  · rw [if_neg q5] at h
    refine fx_iload_n (pc' := 14) hF d_MD_store_13 rfl 2 rfl rfl ?_
    refine fx_if_lt hF (tgt := 22) (pc' := 17) d_MD_store_14 rfl rfl (fun q6 => ?_) (fun q6 => ?_)
    · rw [if_pos q6] at h
      refine fx_iconst (pc' := 23) hF (v := (-1 : Int32)) d_MD_store_22 rfl rfl ?_
      exact he I2 _ _ rfl _ d_MD_store_23 h
    · rw [if_neg q6] at h
      refine fx_iload_n (pc' := 18) hF d_MD_store_17 rfl 2 rfl rfl ?_
      refine fx_iconst (pc' := 19) hF (v := (3 : Int32)) d_MD_store_18 rfl rfl ?_
      refine fx_icmp_le hF (tgt := 24) (pc' := 22) d_MD_store_19 rfl rfl (fun q7 => ?_) (fun q7 => ?_)
      · rw [if_pos q7] at h
        refine fx_iload_n (pc' := 25) hF d_MD_store_24 rfl 2 rfl rfl ?_
        refine fx_iconst (pc' := 26) hF (v := (3 : Int32)) d_MD_store_25 rfl rfl ?_
        refine fx_icmp_ne hF (tgt := 72) (pc' := 29) d_MD_store_26 rfl rfl (fun q8 => ?_) (fun q8 => ?_)
        · rw [if_neg q8] at h
          refine fx_iload_n (pc' := 73) hF d_MD_store_72 rfl 2 rfl rfl ?_
          refine fx_if_ne hF (tgt := 93) (pc' := 76) d_MD_store_73 rfl rfl (fun q9 => ?_) (fun q9 => ?_)
          · rw [if_neg q9] at h
            refine fx_iload_n (pc' := 94) hF d_MD_store_93 rfl 2 rfl rfl ?_
            refine fx_iconst (pc' := 95) hF (v := (1 : Int32)) d_MD_store_94 rfl rfl ?_
            refine fx_icmp_ne hF (tgt := 115) (pc' := 98) d_MD_store_95 rfl rfl (fun q10 => ?_) (fun q10 => ?_)
            · rw [if_neg q10] at h
              refine fx_aload_n (pc' := 116) hF d_MD_store_115 rfl 0 rfl rfl ?_
              obtain ⟨a11, na11, ea11, ka11, h⟩ := fw_ld_some h
              refine fx_getr (pc' := 119) hC hk0 (by decide) rfl iw_MD 6 (by decide) (by decide) rfl na11 ea11 (hw _ wq_3_122) rfl d_MD_store_116 rfl ?_
              refine fx_iload_n (pc' := 120) hF d_MD_store_119 rfl 1 rfl rfl ?_
              obtain ⟨q12, h⟩ := fw_gd_some h
              refine fx_iald (pc' := 121) hC ka11 q12 d_MD_store_120 rfl ?_
              exact he I2 _ _ rfl _ d_MD_store_121 h
            · rw [if_pos q10] at h
              refine fx_aload_n (pc' := 99) hF d_MD_store_98 rfl 0 rfl rfl ?_
              obtain ⟨a13, na13, ea13, ka13, h⟩ := fw_ld_some h
              refine fx_getr (pc' := 102) hC hk0 (by decide) rfl iw_MD 5 (by decide) (by decide) rfl na13 ea13 (hw _ wq_3_121) rfl d_MD_store_99 rfl ?_
              refine fx_iload_n (pc' := 103) hF d_MD_store_102 rfl 1 rfl rfl ?_
              obtain ⟨q14, h⟩ := fw_gd_some h
              refine fx_zald (pc' := 104) hC ka13 q14 d_MD_store_103 rfl ?_
              refine fx_if_eq hF (tgt := 111) (pc' := 107) d_MD_store_104 rfl rfl (fun q15 => ?_) (fun q15 => ?_)
              · rw [if_pos q15] at h
                refine fx_iconst (pc' := 112) hF (v := (0 : Int32)) d_MD_store_111 rfl rfl ?_
                refine fx_goto hF (tgt := 121) d_MD_store_112 rfl ?_
                exact he I2 _ _ rfl _ d_MD_store_121 h
              · rw [if_neg q15] at h
                refine fx_iconst (pc' := 108) hF (v := (1 : Int32)) d_MD_store_107 rfl rfl ?_
                refine fx_goto hF (tgt := 121) d_MD_store_108 rfl ?_
                exact he I2 _ _ rfl _ d_MD_store_121 h
          · rw [if_pos q9] at h
            refine fx_aload_n (pc' := 77) hF d_MD_store_76 rfl 0 rfl rfl ?_
            obtain ⟨a16, na16, ea16, ka16, h⟩ := fw_ld_some h
            refine fx_getr (pc' := 80) hC hk0 (by decide) rfl iw_MD 4 (by decide) (by decide) rfl na16 ea16 (hw _ wq_3_120) rfl d_MD_store_77 rfl ?_
            refine fx_iload_n (pc' := 81) hF d_MD_store_80 rfl 1 rfl rfl ?_
            obtain ⟨q17, h⟩ := fw_gd_some h
            refine fx_zald (pc' := 82) hC ka16 q17 d_MD_store_81 rfl ?_
            refine fx_if_eq hF (tgt := 89) (pc' := 85) d_MD_store_82 rfl rfl (fun q18 => ?_) (fun q18 => ?_)
            · rw [if_pos q18] at h
              refine fx_iconst (pc' := 90) hF (v := (1 : Int32)) d_MD_store_89 rfl rfl ?_
              refine fx_goto hF (tgt := 121) d_MD_store_90 rfl ?_
              exact he I2 _ _ rfl _ d_MD_store_121 h
            · rw [if_neg q18] at h
              refine fx_iconst (pc' := 86) hF (v := (0 : Int32)) d_MD_store_85 rfl rfl ?_
              refine fx_goto hF (tgt := 121) d_MD_store_86 rfl ?_
              exact he I2 _ _ rfl _ d_MD_store_121 h
        · rw [if_pos q8] at h
          refine fx_iconst (pc' := 30) hF (v := (0 : Int32)) d_MD_store_29 rfl rfl ?_
          refine fx_istore_n (pc' := 31) hF (lv' := [(3, .int (0 : Int32)), (0, .ref (g k0)), (1, .int x1), (2, .int x2)]) d_MD_store_30 rfl (by decide) rfl rfl ?_
          refine fx_iconst (pc' := 32) hF (v := (0 : Int32)) d_MD_store_31 rfl rfl ?_
          refine fx_istore (pc' := 34) hF (lv' := [(4, .int (0 : Int32)), (3, .int (0 : Int32)), (0, .ref (g k0)), (1, .int x1), (2, .int x2)]) d_MD_store_32 (by decide) rfl rfl ?_
          refine fx_lv [2, 3, 1, 0] rfl ?_
          exact B34 200 I2 x1 (0 : Int32) (0 : Int32) h
      · rw [if_neg q7] at h
        refine fx_iconst (pc' := 23) hF (v := (-1 : Int32)) d_MD_store_22 rfl rfl ?_
        exact he I2 _ _ rfl _ d_MD_store_23 h
set_option maxHeartbeats 4000000 in
set_option maxRecDepth 100000 in
theorem ct_MD_has (l : Launch) (D : va_G) (aC : Nat → ClassId) (g : Nat → Nat) (n : Nat) (K : Nat → Nat × Nat) (I : Nat → Nat → Int32) (k0 : Nat) (x1 : Int32) (x2 : Int32) (Rr : Int32 × (Nat → Nat → Int32)) (hn : ∀ k, (K k).1 < 99 → k < n) (hk0 : (K k0).1 = 6) (h : fn_MD_has K I k0 x1 x2 = some Rr) : fw_Mi l y_MD_has w_MD_has r_MD_has D aC g n K I [.ref (g k0), .int x1, .int x2] Rr := by
  refine fw_ofGi (cc := b_MD_has) (maxL := 3) (ws' := fw_ws) (by decide +kernel) hn (Nat.le_of_ble_eq_true rfl) rfl ?_
  intro p e s m args below meth c A Q hC hN hA he
  have hF := hC.1
  have hw : ∀ w ∈ fw_ws, w.before args s = true := fun w hw => hF.2.2.2.2 w (List.mem_cons_of_mem _ hw)
  unfold fn_MD_has at h
  change fw_G p l e r_MD_has s m args below meth c 0 0 Q 3 D aC A g n K I 0 [(0, .ref (g k0)), (1, .int x1), (2, .int x2)] []
  refine fx_aload_n (pc' := 1) hF d_MD_has_0 rfl 0 rfl rfl ?_
  refine fx_iconst (pc' := 2) hF (v := (0 : Int32)) d_MD_has_1 rfl rfl ?_
  obtain ⟨I1, eI1, h⟩ := fw_let_some h
  refine fx_puti (pc' := 5) hC hk0 (by decide) rfl iw_MD 0 (by decide) (by decide) rfl ty_MD tyok_MD nn_MD rfl eI1 (tyok_MD 0 (by decide)) rfl rfl (hw _ wq_3_116) rfl d_MD_has_2 rfl ?_
  refine fx_aload_n (pc' := 6) hF d_MD_has_5 rfl 0 rfl rfl ?_
  refine fx_iload_n (pc' := 7) hF d_MD_has_6 rfl 1 rfl rfl ?_
  obtain ⟨r4, I2, c3, h⟩ := fw_bd_some h
  refine fx_callVi (pc' := 10) (As := [.int x1]) (st := []) hC hN hA hk0 (by decide) rfl (ct_MD_isStore l D aC g n K I1 k0 x1 (r4, I2) hn hk0 c3) (cwV 1 hF.2.2.2.2 (fw_gV wq_4_71 wq_4_73 wsel_MD_isStore wq_1_8 wq_4_74) rfl rfl rfl ⟨rfl, by decide +kernel, by decide +kernel, by decide +kernel⟩ ⟨Nat.le_of_ble_eq_true rfl, Nat.le_of_ble_eq_true rfl⟩) ⟨Nat.zero_le _, Nat.zero_le _⟩ rfl rfl (Nat.le_of_ble_eq_true rfl) d_MD_has_7 rfl ?_
  refine fx_if_eq hF (tgt := 63) (pc' := 13) d_MD_has_10 rfl rfl (fun q5 => ?_) (fun q5 => ?_)
  · rw [if_pos q5] at h
    refine fx_iconst (pc' := 64) hF (v := (0 : Int32)) d_MD_has_63 rfl rfl ?_
    exact he I2 _ _ rfl _ d_MD_has_64 h
  · rw [if_neg q5] at h
    refine fx_iload_n (pc' := 14) hF d_MD_has_13 rfl 2 rfl rfl ?_
    refine fx_if_lt hF (tgt := 63) (pc' := 17) d_MD_has_14 rfl rfl (fun q6 => ?_) (fun q6 => ?_)
    · rw [if_pos q6] at h
      refine fx_iconst (pc' := 64) hF (v := (0 : Int32)) d_MD_has_63 rfl rfl ?_
      exact he I2 _ _ rfl _ d_MD_has_64 h
    · rw [if_neg q6] at h
      refine fx_iload_n (pc' := 18) hF d_MD_has_17 rfl 2 rfl rfl ?_
      refine fx_bipush (pc' := 20) hF (v := (20 : Int32)) d_MD_has_18 rfl rfl ?_
      refine fx_icmp_ge hF (tgt := 63) (pc' := 23) d_MD_has_20 rfl rfl (fun q7 => ?_) (fun q7 => ?_)
      · rw [if_pos q7] at h
        refine fx_iconst (pc' := 64) hF (v := (0 : Int32)) d_MD_has_63 rfl rfl ?_
        exact he I2 _ _ rfl _ d_MD_has_64 h
      · rw [if_neg q7] at h
        refine fx_aload_n (pc' := 24) hF d_MD_has_23 rfl 0 rfl rfl ?_
        obtain ⟨a8, na8, ea8, ka8, h⟩ := fw_ld_some h
        refine fx_getr (pc' := 27) hC hk0 (by decide) rfl iw_MD 7 (by decide) (by decide) rfl na8 ea8 (hw _ wq_3_123) rfl d_MD_has_24 rfl ?_
        refine fx_aload_n (pc' := 28) hF d_MD_has_27 rfl 0 rfl rfl ?_
        refine fx_iload_n (pc' := 29) hF d_MD_has_28 rfl 1 rfl rfl ?_
        obtain ⟨r11, I9, c10, h⟩ := fw_bd_some h
        refine fx_callVi (pc' := 32) (As := [.int x1]) (st := [.ref (g a8)]) hC hN hA hk0 (by decide) rfl (ct_MD_isStore l D aC g n K I2 k0 x1 (r11, I9) hn hk0 c10) (cwV 1 hF.2.2.2.2 (fw_gV wq_4_71 wq_4_73 wsel_MD_isStore wq_1_8 wq_4_74) rfl rfl rfl ⟨rfl, by decide +kernel, by decide +kernel, by decide +kernel⟩ ⟨Nat.le_of_ble_eq_true rfl, Nat.le_of_ble_eq_true rfl⟩) ⟨Nat.zero_le _, Nat.zero_le _⟩ rfl rfl (Nat.le_of_ble_eq_true rfl) d_MD_has_29 rfl ?_
        refine fx_if_eq hF (tgt := 54) (pc' := 35) d_MD_has_32 rfl rfl (fun q12 => ?_) (fun q12 => ?_)
        · rw [if_pos q12] at h
          refine fx_iconst (pc' := 55) hF (v := (0 : Int32)) d_MD_has_54 rfl rfl ?_
          obtain ⟨q13, h⟩ := fw_gd_some h
          refine fx_zald (pc' := 56) hC ka8 q13 d_MD_has_55 rfl ?_
          refine fx_if_eq hF (tgt := 63) (pc' := 59) d_MD_has_56 rfl rfl (fun q14 => ?_) (fun q14 => ?_)
          · rw [if_pos q14] at h
            refine fx_iconst (pc' := 64) hF (v := (0 : Int32)) d_MD_has_63 rfl rfl ?_
            exact he I9 _ _ rfl _ d_MD_has_64 h
          · rw [if_neg q14] at h
            refine fx_iconst (pc' := 60) hF (v := (1 : Int32)) d_MD_has_59 rfl rfl ?_
            refine fx_goto hF (tgt := 64) d_MD_has_60 rfl ?_
            exact he I9 _ _ rfl _ d_MD_has_64 h
        · rw [if_neg q12] at h
          refine fx_iload_n (pc' := 36) hF d_MD_has_35 rfl 2 rfl rfl ?_
          refine fx_if_lt hF (tgt := 54) (pc' := 39) d_MD_has_36 rfl rfl (fun q15 => ?_) (fun q15 => ?_)
          · rw [if_pos q15] at h
            refine fx_iconst (pc' := 55) hF (v := (0 : Int32)) d_MD_has_54 rfl rfl ?_
            obtain ⟨q16, h⟩ := fw_gd_some h
            refine fx_zald (pc' := 56) hC ka8 q16 d_MD_has_55 rfl ?_
            refine fx_if_eq hF (tgt := 63) (pc' := 59) d_MD_has_56 rfl rfl (fun q17 => ?_) (fun q17 => ?_)
            · rw [if_pos q17] at h
              refine fx_iconst (pc' := 64) hF (v := (0 : Int32)) d_MD_has_63 rfl rfl ?_
              exact he I9 _ _ rfl _ d_MD_has_64 h
            · rw [if_neg q17] at h
              refine fx_iconst (pc' := 60) hF (v := (1 : Int32)) d_MD_has_59 rfl rfl ?_
              refine fx_goto hF (tgt := 64) d_MD_has_60 rfl ?_
              exact he I9 _ _ rfl _ d_MD_has_64 h
          · rw [if_neg q15] at h
            refine fx_iload_n (pc' := 40) hF d_MD_has_39 rfl 2 rfl rfl ?_
            refine fx_bipush (pc' := 42) hF (v := (20 : Int32)) d_MD_has_40 rfl rfl ?_
            refine fx_icmp_ge hF (tgt := 54) (pc' := 45) d_MD_has_42 rfl rfl (fun q18 => ?_) (fun q18 => ?_)
            · rw [if_pos q18] at h
              refine fx_iconst (pc' := 55) hF (v := (0 : Int32)) d_MD_has_54 rfl rfl ?_
              obtain ⟨q19, h⟩ := fw_gd_some h
              refine fx_zald (pc' := 56) hC ka8 q19 d_MD_has_55 rfl ?_
              refine fx_if_eq hF (tgt := 63) (pc' := 59) d_MD_has_56 rfl rfl (fun q20 => ?_) (fun q20 => ?_)
              · rw [if_pos q20] at h
                refine fx_iconst (pc' := 64) hF (v := (0 : Int32)) d_MD_has_63 rfl rfl ?_
                exact he I9 _ _ rfl _ d_MD_has_64 h
              · rw [if_neg q20] at h
                refine fx_iconst (pc' := 60) hF (v := (1 : Int32)) d_MD_has_59 rfl rfl ?_
                refine fx_goto hF (tgt := 64) d_MD_has_60 rfl ?_
                exact he I9 _ _ rfl _ d_MD_has_64 h
            · rw [if_neg q18] at h
              refine fx_bipush (pc' := 47) hF (v := (20 : Int32)) d_MD_has_45 rfl rfl ?_
              refine fx_iload_n (pc' := 48) hF d_MD_has_47 rfl 1 rfl rfl ?_
              refine fx_imul (pc' := 49) hF d_MD_has_48 rfl ?_
              refine fx_iload_n (pc' := 50) hF d_MD_has_49 rfl 2 rfl rfl ?_
              refine fx_iadd (pc' := 51) hF d_MD_has_50 rfl ?_
              refine fx_goto hF (tgt := 55) d_MD_has_51 rfl ?_
              obtain ⟨q21, h⟩ := fw_gd_some h
              refine fx_zald (pc' := 56) hC ka8 q21 d_MD_has_55 rfl ?_
              refine fx_if_eq hF (tgt := 63) (pc' := 59) d_MD_has_56 rfl rfl (fun q22 => ?_) (fun q22 => ?_)
              · rw [if_pos q22] at h
                refine fx_iconst (pc' := 64) hF (v := (0 : Int32)) d_MD_has_63 rfl rfl ?_
                exact he I9 _ _ rfl _ d_MD_has_64 h
              · rw [if_neg q22] at h
                refine fx_iconst (pc' := 60) hF (v := (1 : Int32)) d_MD_has_59 rfl rfl ?_
                refine fx_goto hF (tgt := 64) d_MD_has_60 rfl ?_
                exact he I9 _ _ rfl _ d_MD_has_64 h
set_option maxHeartbeats 4000000 in
set_option maxRecDepth 100000 in
theorem ct_MD_writer (l : Launch) (D : va_G) (aC : Nat → ClassId) (g : Nat → Nat) (n : Nat) (K : Nat → Nat × Nat) (I : Nat → Nat → Int32) (k0 : Nat) (x1 : Int32) (Rr : Int32 × (Nat → Nat → Int32)) (hn : ∀ k, (K k).1 < 99 → k < n) (hk0 : (K k0).1 = 6) (h : fn_MD_writer K I k0 x1 = some Rr) : fw_Mi l y_MD_writer w_MD_writer r_MD_writer D aC g n K I [.ref (g k0), .int x1] Rr := by
  refine fw_ofGi (cc := b_MD_writer) (maxL := 2) (ws' := fw_ws) (by decide +kernel) hn (Nat.le_of_ble_eq_true rfl) rfl ?_
  intro p e s m args below meth c A Q hC hN hA he
  have hF := hC.1
  have hw : ∀ w ∈ fw_ws, w.before args s = true := fun w hw => hF.2.2.2.2 w (List.mem_cons_of_mem _ hw)
  unfold fn_MD_writer at h
  change fw_G p l e r_MD_writer s m args below meth c 0 0 Q 2 D aC A g n K I 0 [(0, .ref (g k0)), (1, .int x1)] []
  refine fx_aload_n (pc' := 1) hF d_MD_writer_0 rfl 0 rfl rfl ?_
  refine fx_iconst (pc' := 2) hF (v := (0 : Int32)) d_MD_writer_1 rfl rfl ?_
  obtain ⟨I1, eI1, h⟩ := fw_let_some h
  refine fx_puti (pc' := 5) hC hk0 (by decide) rfl iw_MD 0 (by decide) (by decide) rfl ty_MD tyok_MD nn_MD rfl eI1 (tyok_MD 0 (by decide)) rfl rfl (hw _ wq_3_116) rfl d_MD_writer_2 rfl ?_
  refine fx_iload_n (pc' := 6) hF d_MD_writer_5 rfl 1 rfl rfl ?_
  refine fx_if_ne hF (tgt := 16) (pc' := 9) d_MD_writer_6 rfl rfl (fun q2 => ?_) (fun q2 => ?_)
  · rw [if_neg q2] at h
    refine fx_iload_n (pc' := 17) hF d_MD_writer_16 rfl 1 rfl rfl ?_
    refine fx_iconst (pc' := 18) hF (v := (1 : Int32)) d_MD_writer_17 rfl rfl ?_
    refine fx_icmp_ne hF (tgt := 28) (pc' := 21) d_MD_writer_18 rfl rfl (fun q3 => ?_) (fun q3 => ?_)
    · rw [if_neg q3] at h
      refine fx_iload_n (pc' := 29) hF d_MD_writer_28 rfl 1 rfl rfl ?_
      refine fx_iconst (pc' := 30) hF (v := (2 : Int32)) d_MD_writer_29 rfl rfl ?_
      refine fx_icmp_ne hF (tgt := 40) (pc' := 33) d_MD_writer_30 rfl rfl (fun q4 => ?_) (fun q4 => ?_)
      · rw [if_neg q4] at h
        refine fx_iconst (pc' := 41) hF (v := (-1 : Int32)) d_MD_writer_40 rfl rfl ?_
        exact he I1 _ _ rfl _ d_MD_writer_41 h
      · rw [if_pos q4] at h
        refine fx_aload_n (pc' := 34) hF d_MD_writer_33 rfl 0 rfl rfl ?_
        refine fx_geti (pc' := 37) hC hk0 (by decide) rfl iw_MD 16 (by decide) (by decide) rfl (hw _ wq_3_132) rfl d_MD_writer_34 rfl ?_
        refine fx_goto hF (tgt := 41) d_MD_writer_37 rfl ?_
        exact he I1 _ _ rfl _ d_MD_writer_41 h
    · rw [if_pos q3] at h
      refine fx_aload_n (pc' := 22) hF d_MD_writer_21 rfl 0 rfl rfl ?_
      refine fx_geti (pc' := 25) hC hk0 (by decide) rfl iw_MD 15 (by decide) (by decide) rfl (hw _ wq_3_131) rfl d_MD_writer_22 rfl ?_
      refine fx_goto hF (tgt := 41) d_MD_writer_25 rfl ?_
      exact he I1 _ _ rfl _ d_MD_writer_41 h
  · rw [if_pos q2] at h
    refine fx_aload_n (pc' := 10) hF d_MD_writer_9 rfl 0 rfl rfl ?_
    refine fx_geti (pc' := 13) hC hk0 (by decide) rfl iw_MD 14 (by decide) (by decide) rfl (hw _ wq_3_130) rfl d_MD_writer_10 rfl ?_
    refine fx_goto hF (tgt := 41) d_MD_writer_13 rfl ?_
    exact he I1 _ _ rfl _ d_MD_writer_41 h
set_option maxHeartbeats 4000000 in
set_option maxRecDepth 100000 in
theorem ct_MD_answers (l : Launch) (D : va_G) (aC : Nat → ClassId) (g : Nat → Nat) (n : Nat) (K : Nat → Nat × Nat) (I : Nat → Nat → Int32) (k0 : Nat) (x1 : Int32) (Rr : Int32 × (Nat → Nat → Int32)) (hn : ∀ k, (K k).1 < 99 → k < n) (hk0 : (K k0).1 = 6) (h : fn_MD_answers K I k0 x1 = some Rr) : fw_Mi l y_MD_answers w_MD_answers r_MD_answers D aC g n K I [.ref (g k0), .int x1] Rr := by
  refine fw_ofGi (cc := b_MD_answers) (maxL := 2) (ws' := fw_ws) (by decide +kernel) hn (Nat.le_of_ble_eq_true rfl) rfl ?_
  intro p e s m args below meth c A Q hC hN hA he
  have hF := hC.1
  have hw : ∀ w ∈ fw_ws, w.before args s = true := fun w hw => hF.2.2.2.2 w (List.mem_cons_of_mem _ hw)
  unfold fn_MD_answers at h
  change fw_G p l e r_MD_answers s m args below meth c 0 0 Q 2 D aC A g n K I 0 [(0, .ref (g k0)), (1, .int x1)] []
  refine fx_aload_n (pc' := 1) hF d_MD_answers_0 rfl 0 rfl rfl ?_
  refine fx_iconst (pc' := 2) hF (v := (0 : Int32)) d_MD_answers_1 rfl rfl ?_
  obtain ⟨I1, eI1, h⟩ := fw_let_some h
  refine fx_puti (pc' := 5) hC hk0 (by decide) rfl iw_MD 0 (by decide) (by decide) rfl ty_MD tyok_MD nn_MD rfl eI1 (tyok_MD 0 (by decide)) rfl rfl (hw _ wq_3_116) rfl d_MD_answers_2 rfl ?_
  refine fx_iload_n (pc' := 6) hF d_MD_answers_5 rfl 1 rfl rfl ?_
  refine fx_if_lt hF (tgt := 17) (pc' := 9) d_MD_answers_6 rfl rfl (fun q2 => ?_) (fun q2 => ?_)
  · rw [if_pos q2] at h
    refine fx_iconst (pc' := 18) hF (v := (-1 : Int32)) d_MD_answers_17 rfl rfl ?_
    refine fx_goto hF (tgt := 26) d_MD_answers_18 rfl ?_
    exact he I1 _ _ rfl _ d_MD_answers_26 h
  · rw [if_neg q2] at h
    refine fx_iload_n (pc' := 10) hF d_MD_answers_9 rfl 1 rfl rfl ?_
    refine fx_aload_n (pc' := 11) hF d_MD_answers_10 rfl 0 rfl rfl ?_
    refine fx_geti (pc' := 14) hC hk0 (by decide) rfl iw_MD 15 (by decide) (by decide) rfl (hw _ wq_3_131) rfl d_MD_answers_11 rfl ?_
    refine fx_icmp_lt hF (tgt := 21) (pc' := 17) d_MD_answers_14 rfl rfl (fun q3 => ?_) (fun q3 => ?_)
    · rw [if_pos q3] at h
      refine fx_aload_n (pc' := 22) hF d_MD_answers_21 rfl 0 rfl rfl ?_
      refine fx_iload_n (pc' := 23) hF d_MD_answers_22 rfl 1 rfl rfl ?_
      obtain ⟨r6, I4, c5, h⟩ := fw_bd_some h
      refine fx_callVi (pc' := 26) (As := [.int x1]) (st := []) hC hN hA hk0 (by decide) rfl (ct_MD_ackCount l D aC g n K I1 k0 x1 (r6, I4) hn hk0 c5) (cwV 1 hF.2.2.2.2 (fw_gV wq_3_224 wq_3_226 wsel_MD_ackCount wq_1_8 wq_3_227) rfl rfl rfl ⟨rfl, by decide +kernel, by decide +kernel, by decide +kernel⟩ ⟨Nat.le_of_ble_eq_true rfl, Nat.le_of_ble_eq_true rfl⟩) ⟨Nat.zero_le _, Nat.zero_le _⟩ rfl rfl (Nat.le_of_ble_eq_true rfl) d_MD_answers_23 rfl ?_
      exact he I4 _ _ rfl _ d_MD_answers_26 h
    · rw [if_neg q3] at h
      refine fx_iconst (pc' := 18) hF (v := (-1 : Int32)) d_MD_answers_17 rfl rfl ?_
      refine fx_goto hF (tgt := 26) d_MD_answers_18 rfl ?_
      exact he I1 _ _ rfl _ d_MD_answers_26 h
set_option maxHeartbeats 4000000 in
set_option maxRecDepth 100000 in
theorem ct_MD_recoverer (l : Launch) (D : va_G) (aC : Nat → ClassId) (g : Nat → Nat) (n : Nat) (K : Nat → Nat × Nat) (I : Nat → Nat → Int32) (k0 : Nat) (x1 : Int32) (x2 : Int32) (Rr : Int32 × (Nat → Nat → Int32)) (hn : ∀ k, (K k).1 < 99 → k < n) (hk0 : (K k0).1 = 6) (h : fn_MD_recoverer K I k0 x1 x2 = some Rr) : fw_Mi l y_MD_recoverer w_MD_recoverer r_MD_recoverer D aC g n K I [.ref (g k0), .int x1, .int x2] Rr := by
  refine fw_ofGi (cc := b_MD_recoverer) (maxL := 3) (ws' := fw_ws) (by decide +kernel) hn (Nat.le_of_ble_eq_true rfl) rfl ?_
  intro p e s m args below meth c A Q hC hN hA he
  have hF := hC.1
  have hw : ∀ w ∈ fw_ws, w.before args s = true := fun w hw => hF.2.2.2.2 w (List.mem_cons_of_mem _ hw)
  unfold fn_MD_recoverer at h
  change fw_G p l e r_MD_recoverer s m args below meth c 0 0 Q 3 D aC A g n K I 0 [(0, .ref (g k0)), (1, .int x1), (2, .int x2)] []
  refine fx_aload_n (pc' := 1) hF d_MD_recoverer_0 rfl 0 rfl rfl ?_
  refine fx_iconst (pc' := 2) hF (v := (0 : Int32)) d_MD_recoverer_1 rfl rfl ?_
  obtain ⟨I1, eI1, h⟩ := fw_let_some h
  refine fx_puti (pc' := 5) hC hk0 (by decide) rfl iw_MD 0 (by decide) (by decide) rfl ty_MD tyok_MD nn_MD rfl eI1 (tyok_MD 0 (by decide)) rfl rfl (hw _ wq_3_116) rfl d_MD_recoverer_2 rfl ?_
  refine fx_iload_n (pc' := 6) hF d_MD_recoverer_5 rfl 1 rfl rfl ?_
  obtain ⟨r4, I2, c3, h⟩ := fw_bd_some h
  refine fx_callSi (pc' := 9) (As := [.int x1]) (st := []) hC hN hA (ct_MD_isRecoverer l D aC g n K I1 x1 (r4, I2) hn c3) (va_cwS 1 hF.2.2.2.2 (fw_gS wq_4_52 wq_4_53 wq_1_8 wq_4_54) rfl rfl rfl ⟨by decide +kernel, by decide +kernel, by decide +kernel⟩ ⟨Nat.le_of_ble_eq_true rfl, Nat.le_of_ble_eq_true rfl⟩) ⟨Nat.zero_le _, Nat.zero_le _⟩ rfl rfl (Nat.le_of_ble_eq_true rfl) d_MD_recoverer_6 rfl ?_
  refine fx_if_ne hF (tgt := 14) (pc' := 12) d_MD_recoverer_9 rfl rfl (fun q5 => ?_) (fun q5 => ?_)
  · rw [if_neg q5] at h
    refine fx_iload_n (pc' := 15) hF d_MD_recoverer_14 rfl 2 rfl rfl ?_
    by_cases q6 : x2 = (0 : Int32)
    · rw [if_pos q6] at h
      refine fx_swIn hF (tgt := 48) d_MD_recoverer_15 (by rw [q6]; decide) (by rw [q6]; decide) (by rw [q6]; rfl) rfl ?_
      refine fx_aload_n (pc' := 49) hF d_MD_recoverer_48 rfl 0 rfl rfl ?_
      obtain ⟨a7, na7, ea7, ka7, h⟩ := fw_ld_some h
      refine fx_getr (pc' := 52) hC hk0 (by decide) rfl iw_MD 19 (by decide) (by decide) rfl na7 ea7 (hw _ wq_3_135) rfl d_MD_recoverer_49 rfl ?_
      refine fx_iload_n (pc' := 53) hF d_MD_recoverer_52 rfl 1 rfl rfl ?_
      obtain ⟨q8, h⟩ := fw_gd_some h
      refine fx_iald (pc' := 54) hC ka7 q8 d_MD_recoverer_53 rfl ?_
      exact he I2 _ _ rfl _ d_MD_recoverer_54 h
    · rw [if_neg q6] at h
      by_cases q9 : x2 = (1 : Int32)
      · rw [if_pos q9] at h
        refine fx_swIn hF (tgt := 55) d_MD_recoverer_15 (by rw [q9]; decide) (by rw [q9]; decide) (by rw [q9]; rfl) rfl ?_
        refine fx_aload_n (pc' := 56) hF d_MD_recoverer_55 rfl 0 rfl rfl ?_
        obtain ⟨a10, na10, ea10, ka10, h⟩ := fw_ld_some h
        refine fx_getr (pc' := 59) hC hk0 (by decide) rfl iw_MD 20 (by decide) (by decide) rfl na10 ea10 (hw _ wq_3_136) rfl d_MD_recoverer_56 rfl ?_
        refine fx_iload_n (pc' := 60) hF d_MD_recoverer_59 rfl 1 rfl rfl ?_
        obtain ⟨q11, h⟩ := fw_gd_some h
        refine fx_iald (pc' := 61) hC ka10 q11 d_MD_recoverer_60 rfl ?_
        exact he I2 _ _ rfl _ d_MD_recoverer_61 h
      · rw [if_neg q9] at h
        by_cases q12 : x2 = (2 : Int32)
        · rw [if_pos q12] at h
          refine fx_swIn hF (tgt := 62) d_MD_recoverer_15 (by rw [q12]; decide) (by rw [q12]; decide) (by rw [q12]; rfl) rfl ?_
          refine fx_aload_n (pc' := 63) hF d_MD_recoverer_62 rfl 0 rfl rfl ?_
          obtain ⟨a13, na13, ea13, ka13, h⟩ := fw_ld_some h
          refine fx_getr (pc' := 66) hC hk0 (by decide) rfl iw_MD 21 (by decide) (by decide) rfl na13 ea13 (hw _ wq_3_137) rfl d_MD_recoverer_63 rfl ?_
          refine fx_iload_n (pc' := 67) hF d_MD_recoverer_66 rfl 1 rfl rfl ?_
          obtain ⟨q14, h⟩ := fw_gd_some h
          refine fx_iald (pc' := 68) hC ka13 q14 d_MD_recoverer_67 rfl ?_
          exact he I2 _ _ rfl _ d_MD_recoverer_68 h
        · rw [if_neg q12] at h
          by_cases q15 : x2 = (3 : Int32)
          · rw [if_pos q15] at h
            refine fx_swIn hF (tgt := 69) d_MD_recoverer_15 (by rw [q15]; decide) (by rw [q15]; decide) (by rw [q15]; rfl) rfl ?_
            refine fx_aload_n (pc' := 70) hF d_MD_recoverer_69 rfl 0 rfl rfl ?_
            refine fx_iload_n (pc' := 71) hF d_MD_recoverer_70 rfl 1 rfl rfl ?_
            obtain ⟨r18, I16, c17, h⟩ := fw_bd_some h
            refine fx_callVi (pc' := 74) (As := [.int x1]) (st := []) hC hN hA hk0 (by decide) rfl (ct_MD_answerCount l D aC g n K I2 k0 x1 (r18, I16) hn hk0 c17) (cwV 1 hF.2.2.2.2 (fw_gV wq_4_12 wq_4_14 wsel_MD_answerCount wq_1_8 wq_4_15) rfl rfl rfl ⟨rfl, by decide +kernel, by decide +kernel, by decide +kernel⟩ ⟨Nat.le_of_ble_eq_true rfl, Nat.le_of_ble_eq_true rfl⟩) ⟨Nat.zero_le _, Nat.zero_le _⟩ rfl rfl (Nat.le_of_ble_eq_true rfl) d_MD_recoverer_71 rfl ?_
            exact he I16 _ _ rfl _ d_MD_recoverer_74 h
          · rw [if_neg q15] at h
            by_cases q19 : x2 = (4 : Int32)
            · rw [if_pos q19] at h
              refine fx_swIn hF (tgt := 75) d_MD_recoverer_15 (by rw [q19]; decide) (by rw [q19]; decide) (by rw [q19]; rfl) rfl ?_
              refine fx_aload_n (pc' := 76) hF d_MD_recoverer_75 rfl 0 rfl rfl ?_
              obtain ⟨a20, na20, ea20, ka20, h⟩ := fw_ld_some h
              refine fx_getr (pc' := 79) hC hk0 (by decide) rfl iw_MD 22 (by decide) (by decide) rfl na20 ea20 (hw _ wq_3_138) rfl d_MD_recoverer_76 rfl ?_
              refine fx_iload_n (pc' := 80) hF d_MD_recoverer_79 rfl 1 rfl rfl ?_
              obtain ⟨q21, h⟩ := fw_gd_some h
              refine fx_iald (pc' := 81) hC ka20 q21 d_MD_recoverer_80 rfl ?_
              exact he I2 _ _ rfl _ d_MD_recoverer_81 h
            · rw [if_neg q19] at h
              refine fx_swOut hF (tgt := 82) d_MD_recoverer_15 (by have z0 := lv_neT q6 (a := 0) rfl; have z1 := lv_neT q9 (a := 1) rfl; have z2 := lv_neT q12 (a := 2) rfl; have z3 := lv_neT q15 (a := 3) rfl; have z4 := lv_neT q19 (a := 4) rfl; omega) rfl ?_
              refine fx_iconst (pc' := 83) hF (v := (-1 : Int32)) d_MD_recoverer_82 rfl rfl ?_
              exact he I2 _ _ rfl _ d_MD_recoverer_83 h
  · rw [if_pos q5] at h
    refine fx_iconst (pc' := 13) hF (v := (-1 : Int32)) d_MD_recoverer_12 rfl rfl ?_
    exact he I2 _ _ rfl _ d_MD_recoverer_13 h
