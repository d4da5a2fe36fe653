set_option maxHeartbeats 4000000 in
set_option maxRecDepth 100000 in
theorem ct_MS_isToStore (l : Launch) (D : va_G) (aC : Nat → ClassId) (g : Nat → Nat) (n : Nat) (K : Nat → Nat × Nat) (I : Nat → Nat → Int32) (k0 : Nat) (Rr : Int32 × (Nat → Nat → Int32)) (hn : ∀ k, (K k).1 < 99 → k < n) (hk0 : (K k0).1 = 1) (h : fn_MS_isToStore K I k0 = some Rr) : fw_Mi l y_MS_isToStore w_MS_isToStore r_MS_isToStore D aC g n K I [.ref (g k0)] Rr := by
  refine fw_ofGi (cc := b_MS_isToStore) (maxL := 1) (ws' := fw_ws) (by decide +kernel) hn (Nat.le_of_ble_eq_true rfl) rfl ?_
  intro p e s m args below meth c A Q hC hN hA he
  have hF := hC.1
  have hw : ∀ w ∈ fw_ws, w.before args s = true := fun w hw => hF.2.2.2.2 w (List.mem_cons_of_mem _ hw)
  unfold fn_MS_isToStore at h
  change fw_G p l e r_MS_isToStore s m args below meth c 0 0 Q 1 D aC A g n K I 0 [(0, .ref (g k0))] []
  refine fx_aload_n (pc' := 1) hF d_MS_isToStore_0 rfl 0 rfl rfl ?_
  refine fx_geti (pc' := 4) hC hk0 (by decide) rfl iw_MS 0 (by decide) (by decide) rfl (hw _ wq_1_79) rfl d_MS_isToStore_1 rfl ?_
  refine fx_if_eq hF (tgt := 23) (pc' := 7) d_MS_isToStore_4 rfl rfl (fun q1 => ?_) (fun q1 => ?_)
  · rw [if_pos q1] at h
    refine fx_iconst (pc' := 24) hF (v := (1 : Int32)) d_MS_isToStore_23 rfl rfl ?_
    refine fx_goto hF (tgt := 28) d_MS_isToStore_24 rfl ?_
    exact he I _ _ rfl _ d_MS_isToStore_28 h
  · rw [if_neg q1] at h
    refine fx_aload_n (pc' := 8) hF d_MS_isToStore_7 rfl 0 rfl rfl ?_
    refine fx_geti (pc' := 11) hC hk0 (by decide) rfl iw_MS 0 (by decide) (by decide) rfl (hw _ wq_1_79) rfl d_MS_isToStore_8 rfl ?_
    refine fx_iconst (pc' := 12) hF (v := (1 : Int32)) d_MS_isToStore_11 rfl rfl ?_
    refine fx_icmp_eq hF (tgt := 23) (pc' := 15) d_MS_isToStore_12 rfl rfl (fun q2 => ?_) (fun q2 => ?_)
    · rw [if_pos q2] at h
      refine fx_iconst (pc' := 24) hF (v := (1 : Int32)) d_MS_isToStore_23 rfl rfl ?_
      refine fx_goto hF (tgt := 28) d_MS_isToStore_24 rfl ?_
      exact he I _ _ rfl _ d_MS_isToStore_28 h
    · rw [if_neg q2] at h
      refine fx_aload_n (pc' := 16) hF d_MS_isToStore_15 rfl 0 rfl rfl ?_
      refine fx_geti (pc' := 19) hC hk0 (by decide) rfl iw_MS 0 (by decide) (by decide) rfl (hw _ wq_1_79) rfl d_MS_isToStore_16 rfl ?_
      refine fx_iconst (pc' := 20) hF (v := (2 : Int32)) d_MS_isToStore_19 rfl rfl ?_
      refine fx_icmp_ne hF (tgt := 27) (pc' := 23) d_MS_isToStore_20 rfl rfl (fun q3 => ?_) (fun q3 => ?_)
      · rw [if_neg q3] at h
        refine fx_iconst (pc' := 28) hF (v := (0 : Int32)) d_MS_isToStore_27 rfl rfl ?_
        exact he I _ _ rfl _ d_MS_isToStore_28 h
      · rw [if_pos q3] at h
        refine fx_iconst (pc' := 24) hF (v := (1 : Int32)) d_MS_isToStore_23 rfl rfl ?_
        refine fx_goto hF (tgt := 28) d_MS_isToStore_24 rfl ?_
        exact he I _ _ rfl _ d_MS_isToStore_28 h
set_option maxHeartbeats 4000000 in
set_option maxRecDepth 100000 in
theorem ct_MS_detail (l : Launch) (D : va_G) (aC : Nat → ClassId) (g : Nat → Nat) (n : Nat) (K : Nat → Nat × Nat) (I : Nat → Nat → Int32) (k0 : Nat) (x1 : Int32) (Rr : Int32 × (Nat → Nat → Int32)) (hn : ∀ k, (K k).1 < 99 → k < n) (hk0 : (K k0).1 = 1) (h : fn_MS_detail K I k0 x1 = some Rr) : fw_Mi l y_MS_detail w_MS_detail r_MS_detail D aC g n K I [.ref (g k0), .int x1] Rr := by
  refine fw_ofGi (cc := b_MS_detail) (maxL := 2) (ws' := fw_ws) (by decide +kernel) hn (Nat.le_of_ble_eq_true rfl) rfl ?_
  intro p e s m args below meth c A Q hC hN hA he
  have hF := hC.1
  have hw : ∀ w ∈ fw_ws, w.before args s = true := fun w hw => hF.2.2.2.2 w (List.mem_cons_of_mem _ hw)
  unfold fn_MS_detail at h
  change fw_G p l e r_MS_detail s m args below meth c 0 0 Q 2 D aC A g n K I 0 [(0, .ref (g k0)), (1, .int x1)] []
  refine fx_iload_n (pc' := 1) hF d_MS_detail_0 rfl 1 rfl rfl ?_
  by_cases q1 : x1 = (0 : Int32)
  · rw [if_pos q1] at h
    refine fx_swIn hF (tgt := 44) d_MS_detail_1 (by rw [q1]; decide) (by rw [q1]; decide) (by rw [q1]; rfl) rfl ?_
    refine fx_aload_n (pc' := 45) hF d_MS_detail_44 rfl 0 rfl rfl ?_
    refine fx_geti (pc' := 48) hC hk0 (by decide) rfl iw_MS 0 (by decide) (by decide) rfl (hw _ wq_1_79) rfl d_MS_detail_45 rfl ?_
    exact he I _ _ rfl _ d_MS_detail_48 h
  · rw [if_neg q1] at h
    by_cases q2 : x1 = (1 : Int32)
    · rw [if_pos q2] at h
      refine fx_swIn hF (tgt := 49) d_MS_detail_1 (by rw [q2]; decide) (by rw [q2]; decide) (by rw [q2]; rfl) rfl ?_
      refine fx_aload_n (pc' := 50) hF d_MS_detail_49 rfl 0 rfl rfl ?_
      refine fx_geti (pc' := 53) hC hk0 (by decide) rfl iw_MS 1 (by decide) (by decide) rfl (hw _ wq_1_83) rfl d_MS_detail_50 rfl ?_
      exact he I _ _ rfl _ d_MS_detail_53 h
    · rw [if_neg q2] at h
      by_cases q3 : x1 = (2 : Int32)
      · rw [if_pos q3] at h
        refine fx_swIn hF (tgt := 54) d_MS_detail_1 (by rw [q3]; decide) (by rw [q3]; decide) (by rw [q3]; rfl) rfl ?_
        refine fx_aload_n (pc' := 55) hF d_MS_detail_54 rfl 0 rfl rfl ?_
        refine fx_geti (pc' := 58) hC hk0 (by decide) rfl iw_MS 2 (by decide) (by decide) rfl (hw _ wq_1_86) rfl d_MS_detail_55 rfl ?_
        exact he I _ _ rfl _ d_MS_detail_58 h
      · rw [if_neg q3] at h
        by_cases q4 : x1 = (3 : Int32)
        · rw [if_pos q4] at h
          refine fx_swIn hF (tgt := 59) d_MS_detail_1 (by rw [q4]; decide) (by rw [q4]; decide) (by rw [q4]; rfl) rfl ?_
          refine fx_aload_n (pc' := 60) hF d_MS_detail_59 rfl 0 rfl rfl ?_
          refine fx_geti (pc' := 63) hC hk0 (by decide) rfl iw_MS 3 (by decide) (by decide) rfl (hw _ wq_1_90) rfl d_MS_detail_60 rfl ?_
          exact he I _ _ rfl _ d_MS_detail_63 h
        · rw [if_neg q4] at h
          by_cases q5 : x1 = (4 : Int32)
          · rw [if_pos q5] at h
            refine fx_swIn hF (tgt := 64) d_MS_detail_1 (by rw [q5]; decide) (by rw [q5]; decide) (by rw [q5]; rfl) rfl ?_
            refine fx_aload_n (pc' := 65) hF d_MS_detail_64 rfl 0 rfl rfl ?_
            refine fx_geti (pc' := 68) hC hk0 (by decide) rfl iw_MS 4 (by decide) (by decide) rfl (hw _ wq_1_94) rfl d_MS_detail_65 rfl ?_
            exact he I _ _ rfl _ d_MS_detail_68 h
          · rw [if_neg q5] at h
            by_cases q6 : x1 = (5 : Int32)
            · rw [if_pos q6] at h
              refine fx_swIn hF (tgt := 69) d_MS_detail_1 (by rw [q6]; decide) (by rw [q6]; decide) (by rw [q6]; rfl) rfl ?_
              refine fx_aload_n (pc' := 70) hF d_MS_detail_69 rfl 0 rfl rfl ?_
              refine fx_geti (pc' := 73) hC hk0 (by decide) rfl iw_MS 5 (by decide) (by decide) rfl (hw _ wq_1_97) rfl d_MS_detail_70 rfl ?_
              exact he I _ _ rfl _ d_MS_detail_73 h
            · rw [if_neg q6] at h
              by_cases q7 : x1 = (6 : Int32)
              · rw [if_pos q7] at h
                refine fx_swIn hF (tgt := 74) d_MS_detail_1 (by rw [q7]; decide) (by rw [q7]; decide) (by rw [q7]; rfl) rfl ?_
                refine fx_aload_n (pc' := 75) hF d_MS_detail_74 rfl 0 rfl rfl ?_
                refine fx_geti (pc' := 78) hC hk0 (by decide) rfl iw_MS 6 (by decide) (by decide) rfl (hw _ wq_1_100) rfl d_MS_detail_75 rfl ?_
                exact he I _ _ rfl _ d_MS_detail_78 h
              · rw [if_neg q7] at h
                refine fx_swOut hF (tgt := 79) d_MS_detail_1 (by have z0 := lv_neT q1 (a := 0) rfl; have z1 := lv_neT q2 (a := 1) rfl; have z2 := lv_neT q3 (a := 2) rfl; have z3 := lv_neT q4 (a := 3) rfl; have z4 := lv_neT q5 (a := 4) rfl; have z5 := lv_neT q6 (a := 5) rfl; have z6 := lv_neT q7 (a := 6) rfl; omega) rfl ?_
                refine fx_iconst (pc' := 80) hF (v := (-1 : Int32)) d_MS_detail_79 rfl rfl ?_
                exact he I _ _ rfl _ d_MS_detail_80 h
