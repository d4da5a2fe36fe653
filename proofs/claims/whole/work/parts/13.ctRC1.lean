set_option maxHeartbeats 4000000 in
set_option maxRecDepth 100000 in
theorem ct_RC_isBusy (l : Launch) (D : va_G) (aC : Nat → ClassId) (g : Nat → Nat) (n : Nat) (K : Nat → Nat × Nat) (I : Nat → Nat → Int32) (k0 : Nat) (Rr : Int32 × (Nat → Nat → Int32)) (hn : ∀ k, (K k).1 < 99 → k < n) (hk0 : (K k0).1 = 2) (h : fn_RC_isBusy K I k0 = some Rr) : fw_Mi l y_RC_isBusy w_RC_isBusy r_RC_isBusy D aC g n K I [.ref (g k0)] Rr := by
  refine fw_ofGi (cc := b_RC_isBusy) (maxL := 1) (ws' := fw_ws) (by decide +kernel) hn (Nat.le_of_ble_eq_true rfl) rfl ?_
  intro p e s m args below meth c A Q hC hN hA he
  have hF := hC.1
  have hw : ∀ w ∈ fw_ws, w.before args s = true := fun w hw => hF.2.2.2.2 w (List.mem_cons_of_mem _ hw)
  unfold fn_RC_isBusy at h
  change fw_G p l e r_RC_isBusy s m args below meth c 0 0 Q 1 D aC A g n K I 0 [(0, .ref (g k0))] []
  refine fx_aload_n (pc' := 1) hF d_RC_isBusy_0 rfl 0 rfl rfl ?_
  refine fx_geti (pc' := 4) hC hk0 (by decide) rfl iw_RC 1 (by decide) (by decide) rfl (hw _ wq_1_166) rfl d_RC_isBusy_1 rfl ?_
  refine fx_if_eq hF (tgt := 19) (pc' := 7) d_RC_isBusy_4 rfl rfl (fun q1 => ?_) (fun q1 => ?_)
  · rw [if_pos q1] at h
    refine fx_iconst (pc' := 20) hF (v := (0 : Int32)) d_RC_isBusy_19 rfl rfl ?_
    exact he I _ _ rfl _ d_RC_isBusy_20 h
  · rw [if_neg q1] at h
    refine fx_aload_n (pc' := 8) hF d_RC_isBusy_7 rfl 0 rfl rfl ?_
    refine fx_geti (pc' := 11) hC hk0 (by decide) rfl iw_RC 1 (by decide) (by decide) rfl (hw _ wq_1_166) rfl d_RC_isBusy_8 rfl ?_
    refine fx_iconst (pc' := 12) hF (v := (4 : Int32)) d_RC_isBusy_11 rfl rfl ?_
    refine fx_icmp_eq hF (tgt := 19) (pc' := 15) d_RC_isBusy_12 rfl rfl (fun q2 => ?_) (fun q2 => ?_)
    · rw [if_pos q2] at h
      refine fx_iconst (pc' := 20) hF (v := (0 : Int32)) d_RC_isBusy_19 rfl rfl ?_
      exact he I _ _ rfl _ d_RC_isBusy_20 h
    · rw [if_neg q2] at h
      refine fx_iconst (pc' := 16) hF (v := (1 : Int32)) d_RC_isBusy_15 rfl rfl ?_
      refine fx_goto hF (tgt := 20) d_RC_isBusy_16 rfl ?_
      exact he I _ _ rfl _ d_RC_isBusy_20 h
set_option maxHeartbeats 4000000 in
set_option maxRecDepth 100000 in
theorem ct_RC_awaits (l : Launch) (D : va_G) (aC : Nat → ClassId) (g : Nat → Nat) (n : Nat) (K : Nat → Nat × Nat) (I : Nat → Nat → Int32) (k0 : Nat) (x1 : Int32) (x2 : Int32) (Rr : Int32 × (Nat → Nat → Int32)) (hn : ∀ k, (K k).1 < 99 → k < n) (hk0 : (K k0).1 = 2) (h : fn_RC_awaits K I k0 x1 x2 = some Rr) : fw_Mi l y_RC_awaits w_RC_awaits r_RC_awaits D aC g n K I [.ref (g k0), .int x1, .int x2] Rr := by
  refine fw_ofGi (cc := b_RC_awaits) (maxL := 3) (ws' := fw_ws) (by decide +kernel) hn (Nat.le_of_ble_eq_true rfl) rfl ?_
  intro p e s m args below meth c A Q hC hN hA he
  have hF := hC.1
  have hw : ∀ w ∈ fw_ws, w.before args s = true := fun w hw => hF.2.2.2.2 w (List.mem_cons_of_mem _ hw)
  unfold fn_RC_awaits at h
  change fw_G p l e r_RC_awaits s m args below meth c 0 0 Q 3 D aC A g n K I 0 [(0, .ref (g k0)), (1, .int x1), (2, .int x2)] []
  refine fx_aload_n (pc' := 1) hF d_RC_awaits_0 rfl 0 rfl rfl ?_
  refine fx_geti (pc' := 4) hC hk0 (by decide) rfl iw_RC 1 (by decide) (by decide) rfl (hw _ wq_1_166) rfl d_RC_awaits_1 rfl ?_
  refine fx_iload_n (pc' := 5) hF d_RC_awaits_4 rfl 1 rfl rfl ?_
  refine fx_icmp_ne hF (tgt := 20) (pc' := 8) d_RC_awaits_5 rfl rfl (fun q1 => ?_) (fun q1 => ?_)
  · rw [if_neg q1] at h
    refine fx_iconst (pc' := 21) hF (v := (0 : Int32)) d_RC_awaits_20 rfl rfl ?_
    exact he I _ _ rfl _ d_RC_awaits_21 h
  · rw [if_pos q1] at h
    refine fx_aload_n (pc' := 9) hF d_RC_awaits_8 rfl 0 rfl rfl ?_
    refine fx_geti (pc' := 12) hC hk0 (by decide) rfl iw_RC 3 (by decide) (by decide) rfl (hw _ wq_1_170) rfl d_RC_awaits_9 rfl ?_
    refine fx_iload_n (pc' := 13) hF d_RC_awaits_12 rfl 2 rfl rfl ?_
    refine fx_icmp_ne hF (tgt := 20) (pc' := 16) d_RC_awaits_13 rfl rfl (fun q2 => ?_) (fun q2 => ?_)
    · rw [if_neg q2] at h
      refine fx_iconst (pc' := 21) hF (v := (0 : Int32)) d_RC_awaits_20 rfl rfl ?_
      exact he I _ _ rfl _ d_RC_awaits_21 h
    · rw [if_pos q2] at h
      refine fx_iconst (pc' := 17) hF (v := (1 : Int32)) d_RC_awaits_16 rfl rfl ?_
      refine fx_goto hF (tgt := 21) d_RC_awaits_17 rfl ?_
      exact he I _ _ rfl _ d_RC_awaits_21 h
set_option maxHeartbeats 4000000 in
set_option maxRecDepth 100000 in
theorem ct_RC_beginFencing (l : Launch) (D : va_G) (aC : Nat → ClassId) (g : Nat → Nat) (n : Nat) (K : Nat → Nat × Nat) (I : Nat → Nat → Int32) (k0 : Nat) (x1 : Int32) (Rr : Nat → Nat → Int32) (hn : ∀ k, (K k).1 < 99 → k < n) (hk0 : (K k0).1 = 2) (h : fn_RC_beginFencing K I k0 x1 = some Rr) : fw_Mv l y_RC_beginFencing w_RC_beginFencing r_RC_beginFencing D aC g n K I [.ref (g k0), .int x1] Rr := by
  refine fw_ofGv (cc := b_RC_beginFencing) (maxL := 2) (ws' := fw_ws) (by decide +kernel) hn (Nat.le_of_ble_eq_true rfl) rfl ?_
  intro p e s m args below meth c A Q hC hN hA he
  have hF := hC.1
  have hw : ∀ w ∈ fw_ws, w.before args s = true := fun w hw => hF.2.2.2.2 w (List.mem_cons_of_mem _ hw)
  unfold fn_RC_beginFencing at h
  change fw_G p l e r_RC_beginFencing s m args below meth c 0 0 Q 2 D aC A g n K I 0 [(0, .ref (g k0)), (1, .int x1)] []
  refine fx_aload_n (pc' := 1) hF d_RC_beginFencing_0 rfl 0 rfl rfl ?_
  refine fx_iload_n (pc' := 2) hF d_RC_beginFencing_1 rfl 1 rfl rfl ?_
  obtain ⟨I1, eI1, h⟩ := fw_let_some h
  refine fx_puti (pc' := 5) hC hk0 (by decide) rfl iw_RC 2 (by decide) (by decide) rfl ty_RC tyok_RC nn_RC rfl eI1 (tyok_RC 2 (by decide)) rfl rfl (hw _ wq_1_168) rfl d_RC_beginFencing_2 rfl ?_
  refine fx_aload_n (pc' := 6) hF d_RC_beginFencing_5 rfl 0 rfl rfl ?_
  refine fx_iconst (pc' := 7) hF (v := (0 : Int32)) d_RC_beginFencing_6 rfl rfl ?_
  obtain ⟨I2, eI2, h⟩ := fw_let_some h
  refine fx_puti (pc' := 10) hC hk0 (by decide) rfl iw_RC 4 (by decide) (by decide) rfl ty_RC tyok_RC nn_RC rfl eI2 (tyok_RC 4 (by decide)) rfl rfl (hw _ wq_1_172) rfl d_RC_beginFencing_7 rfl ?_
  refine fx_aload_n (pc' := 11) hF d_RC_beginFencing_10 rfl 0 rfl rfl ?_
  refine fx_iconst (pc' := 12) hF (v := (-1 : Int32)) d_RC_beginFencing_11 rfl rfl ?_
  obtain ⟨I3, eI3, h⟩ := fw_let_some h
  refine fx_puti (pc' := 15) hC hk0 (by decide) rfl iw_RC 5 (by decide) (by decide) rfl ty_RC tyok_RC nn_RC rfl eI3 (tyok_RC 5 (by decide)) rfl rfl (hw _ wq_1_174) rfl d_RC_beginFencing_12 rfl ?_
  refine fx_aload_n (pc' := 16) hF d_RC_beginFencing_15 rfl 0 rfl rfl ?_
  refine fx_iconst (pc' := 17) hF (v := (1 : Int32)) d_RC_beginFencing_16 rfl rfl ?_
  obtain ⟨I4, eI4, h⟩ := fw_let_some h
  refine fx_puti (pc' := 20) hC hk0 (by decide) rfl iw_RC 1 (by decide) (by decide) rfl ty_RC tyok_RC nn_RC rfl eI4 (tyok_RC 1 (by decide)) rfl rfl (hw _ wq_1_166) rfl d_RC_beginFencing_17 rfl ?_
  exact he I4 _ _ d_RC_beginFencing_20 h
set_option maxHeartbeats 4000000 in
set_option maxRecDepth 100000 in
theorem ct_RC_beginReading (l : Launch) (D : va_G) (aC : Nat → ClassId) (g : Nat → Nat) (n : Nat) (K : Nat → Nat × Nat) (I : Nat → Nat → Int32) (k0 : Nat) (x1 : Int32) (Rr : Nat → Nat → Int32) (hn : ∀ k, (K k).1 < 99 → k < n) (hk0 : (K k0).1 = 2) (h : fn_RC_beginReading K I k0 x1 = some Rr) : fw_Mv l y_RC_beginReading w_RC_beginReading r_RC_beginReading D aC g n K I [.ref (g k0), .int x1] Rr := by
  refine fw_ofGv (cc := b_RC_beginReading) (maxL := 2) (ws' := fw_ws) (by decide +kernel) hn (Nat.le_of_ble_eq_true rfl) rfl ?_
  intro p e s m args below meth c A Q hC hN hA he
  have hF := hC.1
  have hw : ∀ w ∈ fw_ws, w.before args s = true := fun w hw => hF.2.2.2.2 w (List.mem_cons_of_mem _ hw)
  unfold fn_RC_beginReading at h
  change fw_G p l e r_RC_beginReading s m args below meth c 0 0 Q 2 D aC A g n K I 0 [(0, .ref (g k0)), (1, .int x1)] []
  refine fx_aload_n (pc' := 1) hF d_RC_beginReading_0 rfl 0 rfl rfl ?_
  refine fx_iload_n (pc' := 2) hF d_RC_beginReading_1 rfl 1 rfl rfl ?_
  obtain ⟨I1, eI1, h⟩ := fw_let_some h
  refine fx_puti (pc' := 5) hC hk0 (by decide) rfl iw_RC 3 (by decide) (by decide) rfl ty_RC tyok_RC nn_RC rfl eI1 (tyok_RC 3 (by decide)) rfl rfl (hw _ wq_1_170) rfl d_RC_beginReading_2 rfl ?_
  refine fx_aload_n (pc' := 6) hF d_RC_beginReading_5 rfl 0 rfl rfl ?_
  refine fx_iconst (pc' := 7) hF (v := (0 : Int32)) d_RC_beginReading_6 rfl rfl ?_
  obtain ⟨I2, eI2, h⟩ := fw_let_some h
  refine fx_puti (pc' := 10) hC hk0 (by decide) rfl iw_RC 4 (by decide) (by decide) rfl ty_RC tyok_RC nn_RC rfl eI2 (tyok_RC 4 (by decide)) rfl rfl (hw _ wq_1_172) rfl d_RC_beginReading_7 rfl ?_
  refine fx_aload_n (pc' := 11) hF d_RC_beginReading_10 rfl 0 rfl rfl ?_
  refine fx_iconst (pc' := 12) hF (v := (2 : Int32)) d_RC_beginReading_11 rfl rfl ?_
  obtain ⟨I3, eI3, h⟩ := fw_let_some h
  refine fx_puti (pc' := 15) hC hk0 (by decide) rfl iw_RC 1 (by decide) (by decide) rfl ty_RC tyok_RC nn_RC rfl eI3 (tyok_RC 1 (by decide)) rfl rfl (hw _ wq_1_166) rfl d_RC_beginReading_12 rfl ?_
  exact he I3 _ _ d_RC_beginReading_15 h
set_option maxHeartbeats 4000000 in
set_option maxRecDepth 100000 in
theorem ct_RC_beginWritingBack (l : Launch) (D : va_G) (aC : Nat → ClassId) (g : Nat → Nat) (n : Nat) (K : Nat → Nat × Nat) (I : Nat → Nat → Int32) (k0 : Nat) (x1 : Int32) (Rr : Nat → Nat → Int32) (hn : ∀ k, (K k).1 < 99 → k < n) (hk0 : (K k0).1 = 2) (h : fn_RC_beginWritingBack K I k0 x1 = some Rr) : fw_Mv l y_RC_beginWritingBack w_RC_beginWritingBack r_RC_beginWritingBack D aC g n K I [.ref (g k0), .int x1] Rr := by
  refine fw_ofGv (cc := b_RC_beginWritingBack) (maxL := 2) (ws' := fw_ws) (by decide +kernel) hn (Nat.le_of_ble_eq_true rfl) rfl ?_
  intro p e s m args below meth c A Q hC hN hA he
  have hF := hC.1
  have hw : ∀ w ∈ fw_ws, w.before args s = true := fun w hw => hF.2.2.2.2 w (List.mem_cons_of_mem _ hw)
  unfold fn_RC_beginWritingBack at h
  change fw_G p l e r_RC_beginWritingBack s m args below meth c 0 0 Q 2 D aC A g n K I 0 [(0, .ref (g k0)), (1, .int x1)] []
  refine fx_aload_n (pc' := 1) hF d_RC_beginWritingBack_0 rfl 0 rfl rfl ?_
  refine fx_iload_n (pc' := 2) hF d_RC_beginWritingBack_1 rfl 1 rfl rfl ?_
  obtain ⟨I1, eI1, h⟩ := fw_let_some h
  refine fx_puti (pc' := 5) hC hk0 (by decide) rfl iw_RC 6 (by decide) (by decide) rfl ty_RC tyok_RC nn_RC rfl eI1 (tyok_RC 6 (by decide)) rfl rfl (hw _ wq_1_176) rfl d_RC_beginWritingBack_2 rfl ?_
  refine fx_aload_n (pc' := 6) hF d_RC_beginWritingBack_5 rfl 0 rfl rfl ?_
  refine fx_iconst (pc' := 7) hF (v := (0 : Int32)) d_RC_beginWritingBack_6 rfl rfl ?_
  obtain ⟨I2, eI2, h⟩ := fw_let_some h
  refine fx_puti (pc' := 10) hC hk0 (by decide) rfl iw_RC 4 (by decide) (by decide) rfl ty_RC tyok_RC nn_RC rfl eI2 (tyok_RC 4 (by decide)) rfl rfl (hw _ wq_1_172) rfl d_RC_beginWritingBack_7 rfl ?_
  refine fx_aload_n (pc' := 11) hF d_RC_beginWritingBack_10 rfl 0 rfl rfl ?_
  refine fx_iconst (pc' := 12) hF (v := (3 : Int32)) d_RC_beginWritingBack_11 rfl rfl ?_
  obtain ⟨I3, eI3, h⟩ := fw_let_some h
  refine fx_puti (pc' := 15) hC hk0 (by decide) rfl iw_RC 1 (by decide) (by decide) rfl ty_RC tyok_RC nn_RC rfl eI3 (tyok_RC 1 (by decide)) rfl rfl (hw _ wq_1_166) rfl d_RC_beginWritingBack_12 rfl ?_
  exact he I3 _ _ d_RC_beginWritingBack_15 h
set_option maxHeartbeats 4000000 in
set_option maxRecDepth 100000 in
theorem ct_RC_noteAnswer (l : Launch) (D : va_G) (aC : Nat → ClassId) (g : Nat → Nat) (n : Nat) (K : Nat → Nat × Nat) (I : Nat → Nat → Int32) (k0 : Nat) (x1 : Int32) (Rr : Nat → Nat → Int32) (hn : ∀ k, (K k).1 < 99 → k < n) (hk0 : (K k0).1 = 2) (h : fn_RC_noteAnswer K I k0 x1 = some Rr) : fw_Mv l y_RC_noteAnswer w_RC_noteAnswer r_RC_noteAnswer D aC g n K I [.ref (g k0), .int x1] Rr := by
  refine fw_ofGv (cc := b_RC_noteAnswer) (maxL := 2) (ws' := fw_ws) (by decide +kernel) hn (Nat.le_of_ble_eq_true rfl) rfl ?_
  intro p e s m args below meth c A Q hC hN hA he
  have hF := hC.1
  have hw : ∀ w ∈ fw_ws, w.before args s = true := fun w hw => hF.2.2.2.2 w (List.mem_cons_of_mem _ hw)
  unfold fn_RC_noteAnswer at h
  change fw_G p l e r_RC_noteAnswer s m args below meth c 0 0 Q 2 D aC A g n K I 0 [(0, .ref (g k0)), (1, .int x1)] []
  refine fx_aload_n (pc' := 1) hF d_RC_noteAnswer_0 rfl 0 rfl rfl ?_
  refine fx_dup (pc' := 2) hF d_RC_noteAnswer_1 rfl rfl ?_
  refine fx_geti (pc' := 5) hC hk0 (by decide) rfl iw_RC 4 (by decide) (by decide) rfl (hw _ wq_1_172) rfl d_RC_noteAnswer_2 rfl ?_
  refine fx_iconst (pc' := 6) hF (v := (1 : Int32)) d_RC_noteAnswer_5 rfl rfl ?_
  refine fx_iload_n (pc' := 7) hF d_RC_noteAnswer_6 rfl 1 rfl rfl ?_
  refine fx_ishl (pc' := 8) hF d_RC_noteAnswer_7 rfl ?_
  refine fx_ior (pc' := 9) hF d_RC_noteAnswer_8 rfl ?_
  obtain ⟨I1, eI1, h⟩ := fw_let_some h
  refine fx_puti (pc' := 12) hC hk0 (by decide) rfl iw_RC 4 (by decide) (by decide) rfl ty_RC tyok_RC nn_RC rfl eI1 (tyok_RC 4 (by decide)) rfl rfl (hw _ wq_1_172) rfl d_RC_noteAnswer_9 rfl ?_
  exact he I1 _ _ d_RC_noteAnswer_12 h
set_option maxHeartbeats 4000000 in
set_option maxRecDepth 100000 in
theorem ct_RC_countAnswered (l : Launch) (D : va_G) (aC : Nat → ClassId) (g : Nat → Nat) (n : Nat) (K : Nat → Nat × Nat) (I : Nat → Nat → Int32) (k0 : Nat) (Rr : Int32 × (Nat → Nat → Int32)) (hn : ∀ k, (K k).1 < 99 → k < n) (hk0 : (K k0).1 = 2) (h : fn_RC_countAnswered K I k0 = some Rr) : fw_Mi l y_RC_countAnswered w_RC_countAnswered r_RC_countAnswered D aC g n K I [.ref (g k0)] Rr := by
  refine fw_ofGi (cc := b_RC_countAnswered) (maxL := 1) (ws' := fw_ws) (by decide +kernel) hn (Nat.le_of_ble_eq_true rfl) rfl ?_
  intro p e s m args below meth c A Q hC hN hA he
  have hF := hC.1
  have hw : ∀ w ∈ fw_ws, w.before args s = true := fun w hw => hF.2.2.2.2 w (List.mem_cons_of_mem _ hw)
  unfold fn_RC_countAnswered at h
  change fw_G p l e r_RC_countAnswered s m args below meth c 0 0 Q 1 D aC A g n K I 0 [(0, .ref (g k0))] []
  refine fx_aload_n (pc' := 1) hF d_RC_countAnswered_0 rfl 0 rfl rfl ?_
  refine fx_geti (pc' := 4) hC hk0 (by decide) rfl iw_RC 4 (by decide) (by decide) rfl (hw _ wq_1_172) rfl d_RC_countAnswered_1 rfl ?_
  obtain ⟨r3, I1, c2, h⟩ := fw_bd_some h
  refine fx_callSi (pc' := 7) (As := [.int (I k0 4)]) (st := []) hC hN hA (ct_JI_bitCount l D aC g n K I (I k0 4) (r3, I1) hn c2) (va_cwS 1 hF.2.2.2.2 (fw_gS wq_2_81 wq_1_237 wq_1_14 wq_1_238) rfl rfl rfl ⟨by decide +kernel, by decide +kernel, by decide +kernel⟩ ⟨Nat.le_of_ble_eq_true rfl, Nat.le_of_ble_eq_true rfl⟩) ⟨Nat.zero_le _, Nat.zero_le _⟩ rfl rfl (Nat.le_of_ble_eq_true rfl) d_RC_countAnswered_4 rfl ?_
  exact he I1 _ _ rfl _ d_RC_countAnswered_7 h
set_option maxHeartbeats 4000000 in
set_option maxRecDepth 100000 in
theorem ct_RC_detail (l : Launch) (D : va_G) (aC : Nat → ClassId) (g : Nat → Nat) (n : Nat) (K : Nat → Nat × Nat) (I : Nat → Nat → Int32) (k0 : Nat) (x1 : Int32) (Rr : Int32 × (Nat → Nat → Int32)) (hn : ∀ k, (K k).1 < 99 → k < n) (hk0 : (K k0).1 = 2) (h : fn_RC_detail K I k0 x1 = some Rr) : fw_Mi l y_RC_detail w_RC_detail r_RC_detail D aC g n K I [.ref (g k0), .int x1] Rr := by
  refine fw_ofGi (cc := b_RC_detail) (maxL := 2) (ws' := fw_ws) (by decide +kernel) hn (Nat.le_of_ble_eq_true rfl) rfl ?_
  intro p e s m args below meth c A Q hC hN hA he
  have hF := hC.1
  have hw : ∀ w ∈ fw_ws, w.before args s = true := fun w hw => hF.2.2.2.2 w (List.mem_cons_of_mem _ hw)
  unfold fn_RC_detail at h
  change fw_G p l e r_RC_detail s m args below meth c 0 0 Q 2 D aC A g n K I 0 [(0, .ref (g k0)), (1, .int x1)] []
  refine fx_iload_n (pc' := 1) hF d_RC_detail_0 rfl 1 rfl rfl ?_
  by_cases q1 : x1 = (0 : Int32)
  · rw [if_pos q1] at h
    refine fx_swIn hF (tgt := 36) d_RC_detail_1 (by rw [q1]; decide) (by rw [q1]; decide) (by rw [q1]; rfl) rfl ?_
    refine fx_aload_n (pc' := 37) hF d_RC_detail_36 rfl 0 rfl rfl ?_
    refine fx_geti (pc' := 40) hC hk0 (by decide) rfl iw_RC 1 (by decide) (by decide) rfl (hw _ wq_1_166) rfl d_RC_detail_37 rfl ?_
    exact he I _ _ rfl _ d_RC_detail_40 h
  · rw [if_neg q1] at h
    by_cases q2 : x1 = (1 : Int32)
    · rw [if_pos q2] at h
      refine fx_swIn hF (tgt := 41) d_RC_detail_1 (by rw [q2]; decide) (by rw [q2]; decide) (by rw [q2]; rfl) rfl ?_
      refine fx_aload_n (pc' := 42) hF d_RC_detail_41 rfl 0 rfl rfl ?_
      refine fx_geti (pc' := 45) hC hk0 (by decide) rfl iw_RC 2 (by decide) (by decide) rfl (hw _ wq_1_168) rfl d_RC_detail_42 rfl ?_
      exact he I _ _ rfl _ d_RC_detail_45 h
    · rw [if_neg q2] at h
      by_cases q3 : x1 = (2 : Int32)
      · rw [if_pos q3] at h
        refine fx_swIn hF (tgt := 46) d_RC_detail_1 (by rw [q3]; decide) (by rw [q3]; decide) (by rw [q3]; rfl) rfl ?_
        refine fx_aload_n (pc' := 47) hF d_RC_detail_46 rfl 0 rfl rfl ?_
        refine fx_geti (pc' := 50) hC hk0 (by decide) rfl iw_RC 3 (by decide) (by decide) rfl (hw _ wq_1_170) rfl d_RC_detail_47 rfl ?_
        exact he I _ _ rfl _ d_RC_detail_50 h
      · rw [if_neg q3] at h
        by_cases q4 : x1 = (3 : Int32)
        · rw [if_pos q4] at h
          refine fx_swIn hF (tgt := 51) d_RC_detail_1 (by rw [q4]; decide) (by rw [q4]; decide) (by rw [q4]; rfl) rfl ?_
          refine fx_aload_n (pc' := 52) hF d_RC_detail_51 rfl 0 rfl rfl ?_
          obtain ⟨r7, I5, c6, h⟩ := fw_bd_some h
          refine fx_callVi (pc' := 55) (As := []) (st := []) hC hN hA hk0 (by decide) rfl (ct_RC_countAnswered l D aC g n K I k0 (r7, I5) hn hk0 c6) (cwV 0 hF.2.2.2.2 (fw_gV wq_2_77 wq_2_79 wsel_RC_countAnswered wq_1_7 wq_2_80) rfl rfl rfl ⟨rfl, by decide +kernel, by decide +kernel, by decide +kernel⟩ ⟨Nat.le_of_ble_eq_true rfl, Nat.le_of_ble_eq_true rfl⟩) ⟨Nat.zero_le _, Nat.zero_le _⟩ rfl rfl (Nat.le_of_ble_eq_true rfl) d_RC_detail_52 rfl ?_
          exact he I5 _ _ rfl _ d_RC_detail_55 h
        · rw [if_neg q4] at h
          by_cases q8 : x1 = (4 : Int32)
          · rw [if_pos q8] at h
            refine fx_swIn hF (tgt := 56) d_RC_detail_1 (by rw [q8]; decide) (by rw [q8]; decide) (by rw [q8]; rfl) rfl ?_
            refine fx_aload_n (pc' := 57) hF d_RC_detail_56 rfl 0 rfl rfl ?_
            refine fx_geti (pc' := 60) hC hk0 (by decide) rfl iw_RC 5 (by decide) (by decide) rfl (hw _ wq_1_174) rfl d_RC_detail_57 rfl ?_
            exact he I _ _ rfl _ d_RC_detail_60 h
          · rw [if_neg q8] at h
            refine fx_swOut hF (tgt := 61) d_RC_detail_1 (by have z0 := lv_neT q1 (a := 0) rfl; have z1 := lv_neT q2 (a := 1) rfl; have z2 := lv_neT q3 (a := 2) rfl; have z3 := lv_neT q4 (a := 3) rfl; have z4 := lv_neT q8 (a := 4) rfl; omega) rfl ?_
            refine fx_iconst (pc' := 62) hF (v := (-1 : Int32)) d_RC_detail_61 rfl rfl ?_
            exact he I _ _ rfl _ d_RC_detail_62 h
