set_option maxHeartbeats 4000000 in
set_option maxRecDepth 100000 in
theorem ct_WR_isFull (l : Launch) (D : va_G) (aC : Nat → ClassId) (g : Nat → Nat) (n : Nat) (K : Nat → Nat × Nat) (I : Nat → Nat → Int32) (k0 : Nat) (Rr : Int32 × (Nat → Nat → Int32)) (hn : ∀ k, (K k).1 < 99 → k < n) (hk0 : (K k0).1 = 4) (h : fn_WR_isFull K I k0 = some Rr) : fw_Mi l y_WR_isFull w_WR_isFull r_WR_isFull D aC g n K I [.ref (g k0)] Rr := by
  refine fw_ofGi (cc := b_WR_isFull) (maxL := 1) (ws' := fw_ws) (by decide +kernel) hn (Nat.le_of_ble_eq_true rfl) rfl ?_
  intro p e s m args below meth c A Q hC hN hA he
  have hF := hC.1
  have hw : ∀ w ∈ fw_ws, w.before args s = true := fun w hw => hF.2.2.2.2 w (List.mem_cons_of_mem _ hw)
  unfold fn_WR_isFull at h
  change fw_G p l e r_WR_isFull s m args below meth c 0 0 Q 1 D aC A g n K I 0 [(0, .ref (g k0))] []
  refine fx_aload_n (pc' := 1) hF d_WR_isFull_0 rfl 0 rfl rfl ?_
  refine fx_geti (pc' := 4) hC hk0 (by decide) rfl iw_WR 3 (by decide) (by decide) rfl (hw _ wq_1_142) rfl d_WR_isFull_1 rfl ?_
  refine fx_bipush (pc' := 6) hF (v := (20 : Int32)) d_WR_isFull_4 rfl rfl ?_
  refine fx_icmp_ge hF (tgt := 24) (pc' := 9) d_WR_isFull_6 rfl rfl (fun q1 => ?_) (fun q1 => ?_)
  · rw [if_pos q1] at h
    refine fx_iconst (pc' := 25) hF (v := (1 : Int32)) d_WR_isFull_24 rfl rfl ?_
    refine fx_goto hF (tgt := 29) d_WR_isFull_25 rfl ?_
    exact he I _ _ rfl _ d_WR_isFull_29 h
  · rw [if_neg q1] at h
    refine fx_aload_n (pc' := 10) hF d_WR_isFull_9 rfl 0 rfl rfl ?_
    refine fx_geti (pc' := 13) hC hk0 (by decide) rfl iw_WR 3 (by decide) (by decide) rfl (hw _ wq_1_142) rfl d_WR_isFull_10 rfl ?_
    refine fx_aload_n (pc' := 14) hF d_WR_isFull_13 rfl 0 rfl rfl ?_
    refine fx_geti (pc' := 17) hC hk0 (by decide) rfl iw_WR 4 (by decide) (by decide) rfl (hw _ wq_1_144) rfl d_WR_isFull_14 rfl ?_
    refine fx_iconst (pc' := 18) hF (v := (1 : Int32)) d_WR_isFull_17 rfl rfl ?_
    refine fx_iadd (pc' := 19) hF d_WR_isFull_18 rfl ?_
    refine fx_isub (pc' := 20) hF d_WR_isFull_19 rfl ?_
    refine fx_iconst (pc' := 21) hF (v := (4 : Int32)) d_WR_isFull_20 rfl rfl ?_
    refine fx_icmp_lt hF (tgt := 28) (pc' := 24) d_WR_isFull_21 rfl rfl (fun q2 => ?_) (fun q2 => ?_)
    · rw [if_pos q2] at h
      refine fx_iconst (pc' := 29) hF (v := (0 : Int32)) d_WR_isFull_28 rfl rfl ?_
      exact he I _ _ rfl _ d_WR_isFull_29 h
    · rw [if_neg q2] at h
      refine fx_iconst (pc' := 25) hF (v := (1 : Int32)) d_WR_isFull_24 rfl rfl ?_
      refine fx_goto hF (tgt := 29) d_WR_isFull_25 rfl ?_
      exact he I _ _ rfl _ d_WR_isFull_29 h
set_option maxHeartbeats 4000000 in
set_option maxRecDepth 100000 in
theorem ct_WR_knows (l : Launch) (D : va_G) (aC : Nat → ClassId) (g : Nat → Nat) (n : Nat) (K : Nat → Nat × Nat) (I : Nat → Nat → Int32) (k0 : Nat) (x1 : Int32) (Rr : Int32 × (Nat → Nat → Int32)) (hn : ∀ k, (K k).1 < 99 → k < n) (hk0 : (K k0).1 = 4) (h : fn_WR_knows K I k0 x1 = some Rr) : fw_Mi l y_WR_knows w_WR_knows r_WR_knows D aC g n K I [.ref (g k0), .int x1] Rr := by
  refine fw_ofGi (cc := b_WR_knows) (maxL := 2) (ws' := fw_ws) (by decide +kernel) hn (Nat.le_of_ble_eq_true rfl) rfl ?_
  intro p e s m args below meth c A Q hC hN hA he
  have hF := hC.1
  have hw : ∀ w ∈ fw_ws, w.before args s = true := fun w hw => hF.2.2.2.2 w (List.mem_cons_of_mem _ hw)
  unfold fn_WR_knows at h
  change fw_G p l e r_WR_knows s m args below meth c 0 0 Q 2 D aC A g n K I 0 [(0, .ref (g k0)), (1, .int x1)] []
  refine fx_iload_n (pc' := 1) hF d_WR_knows_0 rfl 1 rfl rfl ?_
  refine fx_if_lt hF (tgt := 16) (pc' := 4) d_WR_knows_1 rfl rfl (fun q1 => ?_) (fun q1 => ?_)
  · rw [if_pos q1] at h
    refine fx_iconst (pc' := 17) hF (v := (0 : Int32)) d_WR_knows_16 rfl rfl ?_
    exact he I _ _ rfl _ d_WR_knows_17 h
  · rw [if_neg q1] at h
    refine fx_iload_n (pc' := 5) hF d_WR_knows_4 rfl 1 rfl rfl ?_
    refine fx_aload_n (pc' := 6) hF d_WR_knows_5 rfl 0 rfl rfl ?_
    refine fx_geti (pc' := 9) hC hk0 (by decide) rfl iw_WR 3 (by decide) (by decide) rfl (hw _ wq_1_142) rfl d_WR_knows_6 rfl ?_
    refine fx_icmp_ge hF (tgt := 16) (pc' := 12) d_WR_knows_9 rfl rfl (fun q2 => ?_) (fun q2 => ?_)
    · rw [if_pos q2] at h
      refine fx_iconst (pc' := 17) hF (v := (0 : Int32)) d_WR_knows_16 rfl rfl ?_
      exact he I _ _ rfl _ d_WR_knows_17 h
    · rw [if_neg q2] at h
      refine fx_iconst (pc' := 13) hF (v := (1 : Int32)) d_WR_knows_12 rfl rfl ?_
      refine fx_goto hF (tgt := 17) d_WR_knows_13 rfl ?_
      exact he I _ _ rfl _ d_WR_knows_17 h
set_option maxHeartbeats 4000000 in
set_option maxRecDepth 100000 in
theorem ct_WR_append (l : Launch) (D : va_G) (aC : Nat → ClassId) (g : Nat → Nat) (n : Nat) (K : Nat → Nat × Nat) (I : Nat → Nat → Int32) (k0 : Nat) (x1 : Int32) (Rr : Int32 × (Nat → Nat → Int32)) (hn : ∀ k, (K k).1 < 99 → k < n) (hk0 : (K k0).1 = 4) (h : fn_WR_append K I k0 x1 = some Rr) : fw_Mi l y_WR_append w_WR_append r_WR_append D aC g n K I [.ref (g k0), .int x1] Rr := by
  refine fw_ofGi (cc := b_WR_append) (maxL := 3) (ws' := fw_ws) (by decide +kernel) hn (Nat.le_of_ble_eq_true rfl) rfl ?_
  intro p e s m args below meth c A Q hC hN hA he
  have hF := hC.1
  have hw : ∀ w ∈ fw_ws, w.before args s = true := fun w hw => hF.2.2.2.2 w (List.mem_cons_of_mem _ hw)
  unfold fn_WR_append at h
  change fw_G p l e r_WR_append s m args below meth c 0 0 Q 3 D aC A g n K I 0 [(0, .ref (g k0)), (1, .int x1)] []
  refine fx_aload_n (pc' := 1) hF d_WR_append_0 rfl 0 rfl rfl ?_
  refine fx_geti (pc' := 4) hC hk0 (by decide) rfl iw_WR 3 (by decide) (by decide) rfl (hw _ wq_1_142) rfl d_WR_append_1 rfl ?_
  refine fx_istore_n (pc' := 5) hF (lv' := [(2, .int (I k0 3)), (0, .ref (g k0)), (1, .int x1)]) d_WR_append_4 rfl (by decide) rfl rfl ?_
  refine fx_aload_n (pc' := 6) hF d_WR_append_5 rfl 1 rfl rfl ?_
  obtain ⟨a1, na1, ea1, ka1, h⟩ := fw_ld_some h
  refine fx_getr (pc' := 9) hC hk0 (by decide) rfl iw_WR 0 (by decide) (by decide) rfl na1 ea1 (hw _ wq_1_136) rfl d_WR_append_6 rfl ?_
  refine fx_iload_n (pc' := 10) hF d_WR_append_9 rfl 0 rfl rfl ?_
  refine fx_iload_n (pc' := 11) hF d_WR_append_10 rfl 2 rfl rfl ?_
  obtain ⟨q2, h⟩ := fw_gd_some h
  obtain ⟨I3, eI3, h⟩ := fw_let_some h
  refine fx_iast (pc' := 12) hC ka1 q2 eI3 d_WR_append_11 rfl ?_
  refine fx_aload_n (pc' := 13) hF d_WR_append_12 rfl 1 rfl rfl ?_
  refine fx_dup (pc' := 14) hF d_WR_append_13 rfl rfl ?_
  refine fx_geti (pc' := 17) hC hk0 (by decide) rfl iw_WR 3 (by decide) (by decide) rfl (hw _ wq_1_142) rfl d_WR_append_14 rfl ?_
  refine fx_iconst (pc' := 18) hF (v := (1 : Int32)) d_WR_append_17 rfl rfl ?_
  refine fx_iadd (pc' := 19) hF d_WR_append_18 rfl ?_
  obtain ⟨I4, eI4, h⟩ := fw_let_some h
  refine fx_puti (pc' := 22) hC hk0 (by decide) rfl iw_WR 3 (by decide) (by decide) rfl ty_WR tyok_WR nn_WR rfl eI4 (tyok_WR 3 (by decide)) rfl rfl (hw _ wq_1_142) rfl d_WR_append_19 rfl ?_
  refine fx_iload_n (pc' := 23) hF d_WR_append_22 rfl 0 rfl rfl ?_
  exact he I4 _ _ rfl _ d_WR_append_23 h
set_option maxHeartbeats 4000000 in
set_option maxRecDepth 100000 in
theorem ct_WR_countAnswers (l : Launch) (D : va_G) (aC : Nat → ClassId) (g : Nat → Nat) (n : Nat) (K : Nat → Nat × Nat) (I : Nat → Nat → Int32) (k0 : Nat) (x1 : Int32) (Rr : Int32 × (Nat → Nat → Int32)) (hn : ∀ k, (K k).1 < 99 → k < n) (hk0 : (K k0).1 = 4) (h : fn_WR_countAnswers K I k0 x1 = some Rr) : fw_Mi l y_WR_countAnswers w_WR_countAnswers r_WR_countAnswers D aC g n K I [.ref (g k0), .int x1] Rr := by
  refine fw_ofGi (cc := b_WR_countAnswers) (maxL := 2) (ws' := fw_ws) (by decide +kernel) hn (Nat.le_of_ble_eq_true rfl) rfl ?_
  intro p e s m args below meth c A Q hC hN hA he
  have hF := hC.1
  have hw : ∀ w ∈ fw_ws, w.before args s = true := fun w hw => hF.2.2.2.2 w (List.mem_cons_of_mem _ hw)
  unfold fn_WR_countAnswers at h
  change fw_G p l e r_WR_countAnswers s m args below meth c 0 0 Q 2 D aC A g n K I 0 [(0, .ref (g k0)), (1, .int x1)] []
  refine fx_aload_n (pc' := 1) hF d_WR_countAnswers_0 rfl 0 rfl rfl ?_
  obtain ⟨a1, na1, ea1, ka1, h⟩ := fw_ld_some h
  refine fx_getr (pc' := 4) hC hk0 (by decide) rfl iw_WR 1 (by decide) (by decide) rfl na1 ea1 (hw _ wq_1_138) rfl d_WR_countAnswers_1 rfl ?_
  refine fx_iload_n (pc' := 5) hF d_WR_countAnswers_4 rfl 1 rfl rfl ?_
  obtain ⟨q2, h⟩ := fw_gd_some h
  refine fx_iald (pc' := 6) hC ka1 q2 d_WR_countAnswers_5 rfl ?_
  obtain ⟨r5, I3, c4, h⟩ := fw_bd_some h
  refine fx_callSi (pc' := 9) (As := [.int (I a1 x1.toNatClampNeg)]) (st := []) hC hN hA (ct_JI_bitCount l D aC g n K I (I a1 x1.toNatClampNeg) (r5, I3) hn c4) (va_cwS 1 hF.2.2.2.2 (fw_gS wq_1_236 wq_1_237 wq_1_14 wq_1_238) rfl rfl rfl ⟨by decide +kernel, by decide +kernel, by decide +kernel⟩ ⟨Nat.le_of_ble_eq_true rfl, Nat.le_of_ble_eq_true rfl⟩) ⟨Nat.zero_le _, Nat.zero_le _⟩ rfl rfl (Nat.le_of_ble_eq_true rfl) d_WR_countAnswers_6 rfl ?_
  exact he I3 _ _ rfl _ d_WR_countAnswers_9 h
set_option maxHeartbeats 4000000 in
set_option maxRecDepth 100000 in
theorem ct_WR_advanceLac (l : Launch) (D : va_G) (aC : Nat → ClassId) (g : Nat → Nat) (n : Nat) (K : Nat → Nat × Nat) (I : Nat → Nat → Int32) (k0 : Nat) (x1 : Int32) (Rr : Nat → Nat → Int32) (hn : ∀ k, (K k).1 < 99 → k < n) (hk0 : (K k0).1 = 4) (h : fn_WR_advanceLac K I k0 x1 = some Rr) : fw_Mv l y_WR_advanceLac w_WR_advanceLac r_WR_advanceLac D aC g n K I [.ref (g k0), .int x1] Rr := by
  refine fw_ofGv (cc := b_WR_advanceLac) (maxL := 3) (ws' := fw_ws) (by decide +kernel) hn (Nat.le_of_ble_eq_true rfl) rfl ?_
  intro p e s m args below meth c A Q hC hN hA he
  have hF := hC.1
  have hw : ∀ w ∈ fw_ws, w.before args s = true := fun w hw => hF.2.2.2.2 w (List.mem_cons_of_mem _ hw)
  unfold fn_WR_advanceLac at h
  have B7 : ∀ (f : Nat) (I : Nat → Nat → Int32) (x1 : Int32) (x2 : Int32), fn_WR_advanceLac_7 K f I k0 x1 x2 = some Rr → fw_G p l e r_WR_advanceLac s m args below meth c 0 0 Q 3 D aC A g n K I 7 [(0, .ref (g k0)), (1, .int x1), (2, .int x2)] [] := by
    intro f
    induction f with
    | zero =>
      intro I x1 x2 h
      rw [fn_WR_advanceLac_7] at h
      cases h
    | succ f ih =>
      intro I x1 x2 h
      rw [fn_WR_advanceLac_7] at h
      refine fx_iload_n (pc' := 8) hF d_WR_advanceLac_7 rfl 2 rfl rfl ?_
      refine fx_aload_n (pc' := 9) hF d_WR_advanceLac_8 rfl 0 rfl rfl ?_
      refine fx_geti (pc' := 12) hC hk0 (by decide) rfl iw_WR 3 (by decide) (by decide) rfl (hw _ wq_1_142) rfl d_WR_advanceLac_9 rfl ?_
      refine fx_icmp_ge hF (tgt := 35) (pc' := 15) d_WR_advanceLac_12 rfl rfl (fun q1 => ?_) (fun q1 => ?_)
      · rw [if_pos q1] at h
        exact he I _ _ d_WR_advanceLac_35 h
      · rw [if_neg q1] at h
        refine fx_aload_n (pc' := 16) hF d_WR_advanceLac_15 rfl 0 rfl rfl ?_
        refine fx_iload_n (pc' := 17) hF d_WR_advanceLac_16 rfl 2 rfl rfl ?_
        obtain ⟨r4, I2, c3, h⟩ := fw_bd_some h
        refine fx_callVi (pc' := 20) (As := [.int x2]) (st := []) hC hN hA hk0 (by decide) rfl (ct_WR_countAnswers l D aC g n K I k0 x2 (r4, I2) hn hk0 c3) (cwV 1 hF.2.2.2.2 (fw_gV wq_2_123 wq_1_234 wsel_WR_countAnswers wq_1_6 wq_1_235) rfl rfl rfl ⟨rfl, by decide +kernel, by decide +kernel, by decide +kernel⟩ ⟨Nat.le_of_ble_eq_true rfl, Nat.le_of_ble_eq_true rfl⟩) ⟨Nat.zero_le _, Nat.zero_le _⟩ rfl rfl (Nat.le_of_ble_eq_true rfl) d_WR_advanceLac_17 rfl ?_
        refine fx_iload_n (pc' := 21) hF d_WR_advanceLac_20 rfl 1 rfl rfl ?_
        refine fx_icmp_lt hF (tgt := 35) (pc' := 24) d_WR_advanceLac_21 rfl rfl (fun q5 => ?_) (fun q5 => ?_)
        · rw [if_pos q5] at h
          exact he I2 _ _ d_WR_advanceLac_35 h
        · rw [if_neg q5] at h
          refine fx_aload_n (pc' := 25) hF d_WR_advanceLac_24 rfl 0 rfl rfl ?_
          refine fx_iload_n (pc' := 26) hF d_WR_advanceLac_25 rfl 2 rfl rfl ?_
          obtain ⟨I6, eI6, h⟩ := fw_let_some h
          refine fx_puti (pc' := 29) hC hk0 (by decide) rfl iw_WR 4 (by decide) (by decide) rfl ty_WR tyok_WR nn_WR rfl eI6 (tyok_WR 4 (by decide)) rfl rfl (hw _ wq_1_144) rfl d_WR_advanceLac_26 rfl ?_
          refine fx_iinc (pc' := 32) hF (v := x2 + 1) (lv' := [(2, .int (x2 + 1)), (0, .ref (g k0)), (1, .int x1)]) d_WR_advanceLac_29 2 rfl rfl (by decide) rfl rfl ?_
          refine fx_goto hF (tgt := 7) d_WR_advanceLac_32 rfl ?_
          refine fx_lv [1, 2, 0] rfl ?_
          exact ih I6 x1 (x2 + 1) h
  change fw_G p l e r_WR_advanceLac s m args below meth c 0 0 Q 3 D aC A g n K I 0 [(0, .ref (g k0)), (1, .int x1)] []
  refine fx_aload_n (pc' := 1) hF d_WR_advanceLac_0 rfl 0 rfl rfl ?_
  refine fx_geti (pc' := 4) hC hk0 (by decide) rfl iw_WR 4 (by decide) (by decide) rfl (hw _ wq_1_144) rfl d_WR_advanceLac_1 rfl ?_
  refine fx_iconst (pc' := 5) hF (v := (1 : Int32)) d_WR_advanceLac_4 rfl rfl ?_
  refine fx_iadd (pc' := 6) hF d_WR_advanceLac_5 rfl ?_
  refine fx_istore_n (pc' := 7) hF (lv' := [(2, .int ((I k0 4) + (1 : Int32))), (0, .ref (g k0)), (1, .int x1)]) d_WR_advanceLac_6 rfl (by decide) rfl rfl ?_
  refine fx_lv [1, 2, 0] rfl ?_
  exact B7 200 I x1 ((I k0 4) + (1 : Int32)) h
set_option maxHeartbeats 4000000 in
set_option maxRecDepth 100000 in
theorem ct_WR_hear (l : Launch) (D : va_G) (aC : Nat → ClassId) (g : Nat → Nat) (n : Nat) (K : Nat → Nat × Nat) (I : Nat → Nat → Int32) (k0 : Nat) (k1 : Nat) (x2 : Int32) (Rr : Nat → Nat → Int32) (hn : ∀ k, (K k).1 < 99 → k < n) (hk0 : (K k0).1 = 4) (hk1 : (K k1).1 = 1) (h : fn_WR_hear K I k0 k1 x2 = some Rr) : fw_Mv l y_WR_hear w_WR_hear r_WR_hear D aC g n K I [.ref (g k0), .ref (g k1), .int x2] Rr := by
  refine fw_ofGv (cc := b_WR_hear) (maxL := 3) (ws' := fw_ws) (by decide +kernel) hn (Nat.le_of_ble_eq_true rfl) rfl ?_
  intro p e s m args below meth c A Q hC hN hA he
  have hF := hC.1
  have hw : ∀ w ∈ fw_ws, w.before args s = true := fun w hw => hF.2.2.2.2 w (List.mem_cons_of_mem _ hw)
  unfold fn_WR_hear at h
  change fw_G p l e r_WR_hear s m args below meth c 0 0 Q 3 D aC A g n K I 0 [(0, .ref (g k0)), (1, .ref (g k1)), (2, .int x2)] []
  refine fx_aload_n (pc' := 1) hF d_WR_hear_0 rfl 0 rfl rfl ?_
  refine fx_geti (pc' := 4) hC hk0 (by decide) rfl iw_WR 2 (by decide) (by decide) rfl (hw _ wq_1_140) rfl d_WR_hear_1 rfl ?_
  refine fx_if_eq hF (tgt := 8) (pc' := 7) d_WR_hear_4 rfl rfl (fun q1 => ?_) (fun q1 => ?_)
  · rw [if_pos q1] at h
    refine fx_aload_n (pc' := 9) hF d_WR_hear_8 rfl 1 rfl rfl ?_
    refine fx_getiN (pc' := 12) hC hk1 (by decide) rfl iw_MS 0 (by decide) (by decide) rfl (va_Nw.use rfl (hN.1 _ wn_1_81)) rfl d_WR_hear_9 rfl ?_
    refine fx_iconst (pc' := 13) hF (v := (4 : Int32)) d_WR_hear_12 rfl rfl ?_
    refine fx_icmp_ne hF (tgt := 24) (pc' := 16) d_WR_hear_13 rfl rfl (fun q2 => ?_) (fun q2 => ?_)
    · rw [if_neg q2] at h
      refine fx_aload_n (pc' := 25) hF d_WR_hear_24 rfl 0 rfl rfl ?_
      obtain ⟨a3, na3, ea3, ka3, h⟩ := fw_ld_some h
      refine fx_getr (pc' := 28) hC hk0 (by decide) rfl iw_WR 1 (by decide) (by decide) rfl na3 ea3 (hw _ wq_1_138) rfl d_WR_hear_25 rfl ?_
      refine fx_aload_n (pc' := 29) hF d_WR_hear_28 rfl 1 rfl rfl ?_
      refine fx_getiN (pc' := 32) hC hk1 (by decide) rfl iw_MS 3 (by decide) (by decide) rfl (va_Nw.use rfl (hN.1 _ wn_1_92)) rfl d_WR_hear_29 rfl ?_
      refine fx_dup2 (pc' := 33) hF d_WR_hear_32 rfl rfl rfl ?_
      obtain ⟨q4, h⟩ := fw_gd_some h
      refine fx_iald (pc' := 34) hC ka3 q4 d_WR_hear_33 rfl ?_
      refine fx_iconst (pc' := 35) hF (v := (1 : Int32)) d_WR_hear_34 rfl rfl ?_
      refine fx_aload_n (pc' := 36) hF d_WR_hear_35 rfl 1 rfl rfl ?_
      refine fx_getiN (pc' := 39) hC hk1 (by decide) rfl iw_MS 2 (by decide) (by decide) rfl (va_Nw.use rfl (hN.1 _ wn_1_88)) rfl d_WR_hear_36 rfl ?_
      refine fx_ishl (pc' := 40) hF d_WR_hear_39 rfl ?_
      refine fx_ior (pc' := 41) hF d_WR_hear_40 rfl ?_
      obtain ⟨q5, h⟩ := fw_gd_some h
      obtain ⟨I6, eI6, h⟩ := fw_let_some h
      refine fx_iast (pc' := 42) hC ka3 q5 eI6 d_WR_hear_41 rfl ?_
      refine fx_aload_n (pc' := 43) hF d_WR_hear_42 rfl 0 rfl rfl ?_
      refine fx_iload_n (pc' := 44) hF d_WR_hear_43 rfl 2 rfl rfl ?_
      obtain ⟨I7, c8, h⟩ := fw_bv_some h
      refine fx_callVv (pc' := 47) (As := [.int x2]) (st := []) hC hN hA hk0 (by decide) rfl (ct_WR_advanceLac l D aC g n K I6 k0 x2 I7 hn hk0 c8) (cwV 1 hF.2.2.2.2 (fw_gV wq_2_119 wq_2_121 wsel_WR_advanceLac wq_1_6 wq_2_122) rfl rfl rfl ⟨rfl, by decide +kernel, by decide +kernel, by decide +kernel⟩ ⟨Nat.le_of_ble_eq_true rfl, Nat.le_of_ble_eq_true rfl⟩) ⟨Nat.zero_le _, Nat.zero_le _⟩ rfl rfl (Nat.le_of_ble_eq_true rfl) d_WR_hear_44 rfl ?_
      exact he I7 _ _ d_WR_hear_47 h
    · rw [if_pos q2] at h
      refine fx_aload_n (pc' := 17) hF d_WR_hear_16 rfl 0 rfl rfl ?_
      refine fx_iconst (pc' := 18) hF (v := (1 : Int32)) d_WR_hear_17 rfl rfl ?_
      obtain ⟨I9, eI9, h⟩ := fw_let_some h
      refine fx_puti (pc' := 21) hC hk0 (by decide) rfl iw_WR 2 (by decide) (by decide) rfl ty_WR tyok_WR nn_WR rfl eI9 (tyok_WR 2 (by decide)) rfl rfl (hw _ wq_1_140) rfl d_WR_hear_18 rfl ?_
      refine fx_goto hF (tgt := 47) d_WR_hear_21 rfl ?_
      exact he I9 _ _ d_WR_hear_47 h
  · rw [if_neg q1] at h
    exact he I _ _ d_WR_hear_7 h
