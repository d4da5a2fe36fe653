set_option maxHeartbeats 4000000 in
set_option maxRecDepth 100000 in
theorem ct_FL_init (l : Launch) (D : va_G) (aC : Nat → ClassId) (g : Nat → Nat) (b l0 : Nat) (L : List (Nat × Nat)) (I : Nat → Nat → Int32) (k0 : Nat) (x1 : Int32) (x2 : Int32) (x3 : Int32) (Rr : List (Nat × Nat) × (Nat → Nat → Int32)) (hg : ∀ k, g k = b + k) (hl0 : L.length = l0) (hk0 : ((fw_k L) k0).1 = 5) (h : fnc_FL_init l0 L I k0 x1 x2 x3 = some Rr) : fw_Mc l y_FL_init w_FL_init r_FL_init D aC g b L I [.ref (g k0), .int x1, .int x2, .int x3] Rr 45 466 := by
  refine fw_ofGc (cc := b_FL_init) (maxL := 5) (ws' := fw_ws) (by decide +kernel) hg hl0 (Nat.le_of_ble_eq_true rfl) rfl rfl ?_
  intro p e s m args below meth c A Q hC hN hA hsz hin he
  have hF := (hC []).1
  have hl : l0 ≤ L.length := Nat.le_of_eq hl0.symm
  have hw : ∀ w ∈ fw_ws, w.before args s = true := fun w hw => hF.2.2.2.2 w (List.mem_cons_of_mem _ hw)
  unfold fnc_FL_init at h
  have B116 : ∀ (f : Nat) (L : List (Nat × Nat)) (I : Nat → Nat → Int32) (x4 : Int32) (hk0 : (fw_k L k0).1 = 5) (hl : l0 ≤ L.length), fnc_FL_init_116 l0 f L I k0 x4 = some Rr → fw_G p l e r_FL_init s m args below meth c (L.length - l0) (fw_ss l0 L) Q 5 D aC A g L.length (fw_k L) I 116 [(0, .ref (g k0)), (4, .int x4)] [] := by
    intro f
    induction f with
    | zero =>
      intro L I x4 hk0 hl h
      rw [fnc_FL_init_116] at h
      cases h
    | succ f ih =>
      intro L I x4 hk0 hl h
      rw [fnc_FL_init_116] at h
      refine fx_iload (pc' := 118) hF d_FL_init_116 1 rfl rfl ?_
      refine fx_iconst (pc' := 119) hF (v := (2 : Int32)) d_FL_init_118 rfl rfl ?_
      refine fx_icmp_ge hF (tgt := 146) (pc' := 122) d_FL_init_119 rfl rfl (fun q54 => ?_) (fun q54 => ?_)
      · rw [if_pos q54] at h
        refine fx_aload_n (pc' := 147) hF d_FL_init_146 rfl 0 rfl rfl ?_
        refine fx_iconst (pc' := 148) hF (v := (0 : Int32)) d_FL_init_147 rfl rfl ?_
        obtain ⟨I55, eI55, h⟩ := fw_let_some h
        refine fx_puti (pc' := 151) (hC L) hk0 (by decide) rfl iw_FL 7 (by decide) (by decide) rfl ty_FL tyok_FL nn_FL rfl eI55 (tyok_FL 7 (by decide)) rfl rfl (hw _ wq_1_200) rfl d_FL_init_148 rfl ?_
        refine fx_aload_n (pc' := 152) hF d_FL_init_151 rfl 0 rfl rfl ?_
        refine fx_iconst (pc' := 153) hF (v := (0 : Int32)) d_FL_init_152 rfl rfl ?_
        obtain ⟨I56, eI56, h⟩ := fw_let_some h
        refine fx_puti (pc' := 156) (hC L) hk0 (by decide) rfl iw_FL 8 (by decide) (by decide) rfl ty_FL tyok_FL nn_FL rfl eI56 (tyok_FL 8 (by decide)) rfl rfl (hw _ wq_1_201) rfl d_FL_init_153 rfl ?_
        refine fx_aload_n (pc' := 157) hF d_FL_init_156 rfl 0 rfl rfl ?_
        refine fx_iconst (pc' := 158) hF (v := (-1 : Int32)) d_FL_init_157 rfl rfl ?_
        obtain ⟨I57, eI57, h⟩ := fw_let_some h
        refine fx_puti (pc' := 161) (hC L) hk0 (by decide) rfl iw_FL 9 (by decide) (by decide) rfl ty_FL tyok_FL nn_FL rfl eI57 (tyok_FL 9 (by decide)) rfl rfl (hw _ wq_1_202) rfl d_FL_init_158 rfl ?_
        obtain ⟨q58, h⟩ := fw_gd_some h
        exact he L I57 _ _ d_FL_init_161 (of_decide_eq_true q58).1 (of_decide_eq_true q58).2 h
      · rw [if_neg q54] at h
        refine fx_aload_n (pc' := 123) hF d_FL_init_122 rfl 0 rfl rfl ?_
        obtain ⟨a59, na59, ea59, ka59, h⟩ := fw_ld_some h
        refine fx_getr (pc' := 126) (hC L) hk0 (by decide) rfl iw_FL 6 (by decide) (by decide) rfl na59 ea59 (hw _ wq_1_199) rfl d_FL_init_123 rfl ?_
        refine fx_iload (pc' := 128) hF d_FL_init_126 1 rfl rfl ?_
        obtain ⟨a60, L61, ea60, eL61, ba60, ca60, sa60, h⟩ := fw_nw_some h
        obtain ⟨I62, eI62, h⟩ := fw_let_some h
        refine fx_new (pc' := 131) (hC L) hg hsz hA hk0 (by decide) hl ea60 eL61 eI62 ca60 sa60 (by decide) rfl rfl iw_RC ty_RC tyok_RC df_RC (hw _ wq_1_157) (hw _ wq_1_159) (hw _ wq_1_7) d_FL_init_128 rfl ?_
        have hk63 : (fw_k L61 k0).1 = 5 := fw_k_old eL61 hk0 (by decide)
        have hk64 : (fw_k L61 a59).1 = 25 := fw_k_old eL61 ka59 (by decide)
        have ka60 : (fw_k L61 a60).1 = 2 := fw_k_new ea60 eL61
        have hl65 : l0 ≤ L61.length := fw_hl eL61 hl
        refine fx_dup (pc' := 132) hF d_FL_init_131 rfl rfl ?_
        refine fx_iload (pc' := 134) hF d_FL_init_132 1 rfl rfl ?_
        refine fx_iconst (pc' := 135) hF (v := (1 : Int32)) d_FL_init_134 rfl rfl ?_
        refine fx_iadd (pc' := 136) hF d_FL_init_135 rfl ?_
        obtain ⟨L66, I67, c68, eL66, nL66, sL66, mL66, h⟩ := fw_bc_some h
        obtain ⟨xL66, eL66⟩ := eL66
        refine fx_ctorN (pc' := 139) (As := [.int (x4 + (1 : Int32))]) (st := [.ref (g a60), .int x4, .ref (g a59)]) (hC L61) hN hg hsz hA hk63 (by decide) hl65 eL66 nL66 sL66 mL66 (ct_RC_init l D aC g b L61.length L61 I62 a60 (x4 + (1 : Int32)) (L66, I67) hg rfl ka60 c68) ⟨va_cnB 1 hF.2.2.2.2 (fw_gN wq_1_162) rfl rfl rfl (hN.1 _ wn_1_160) (hw _ wq_1_7) ⟨by decide +kernel, by decide +kernel, by decide +kernel⟩ ⟨Nat.le_of_ble_eq_true rfl, Nat.le_of_ble_eq_true rfl⟩, rfl, hw _ wq_1_161⟩ rfl rfl (Nat.le_of_ble_eq_true rfl) d_FL_init_136 rfl ?_
        have hk69 : (fw_k L66 k0).1 = 5 := fw_k_old eL66 hk63 (by decide)
        have hk70 : (fw_k L66 a59).1 = 25 := fw_k_old eL66 hk64 (by decide)
        have hk71 : (fw_k L66 a60).1 = 2 := fw_k_old eL66 ka60 (by decide)
        have hl72 : l0 ≤ L66.length := fw_hl eL66 hl65
        obtain ⟨q73, h⟩ := fw_gd_some h
        obtain ⟨I74, eI74, h⟩ := fw_let_some h
        refine fx_aast25 (pc' := 140) (hC L66) hk70 q73 eI74 hk71 (fw_nn ba60) (fw_ne ba60) d_FL_init_139 rfl ?_
        refine fx_iinc (pc' := 143) hF (v := x4 + 1) (lv' := [(4, .int (x4 + 1)), (0, .ref (g k0))]) d_FL_init_140 1 rfl rfl (by decide) rfl rfl ?_
        refine fx_goto hF (tgt := 116) d_FL_init_143 rfl ?_
        refine fx_lv [1, 0] rfl ?_
        exact ih L66 I74 (x4 + 1) hk69 hl72 h
  have B54 : ∀ (f : Nat) (L : List (Nat × Nat)) (I : Nat → Nat → Int32) (x4 : Int32) (hk0 : (fw_k L k0).1 = 5) (hl : l0 ≤ L.length), fnc_FL_init_54 l0 f L I k0 x4 = some Rr → fw_G p l e r_FL_init s m args below meth c (L.length - l0) (fw_ss l0 L) Q 5 D aC A g L.length (fw_k L) I 54 [(0, .ref (g k0)), (4, .int x4)] [] := by
    intro f
    induction f with
    | zero =>
      intro L I x4 hk0 hl h
      rw [fnc_FL_init_54] at h
      cases h
    | succ f ih =>
      intro L I x4 hk0 hl h
      rw [fnc_FL_init_54] at h
      refine fx_iload (pc' := 56) hF d_FL_init_54 1 rfl rfl ?_
      refine fx_aload_n (pc' := 57) hF d_FL_init_56 rfl 0 rfl rfl ?_
      refine fx_geti (pc' := 60) (hC L) hk0 (by decide) rfl iw_FL 0 (by decide) (by decide) rfl (hw _ wq_1_193) rfl d_FL_init_57 rfl ?_
      refine fx_icmp_ge hF (tgt := 83) (pc' := 63) d_FL_init_60 rfl rfl (fun q23 => ?_) (fun q23 => ?_)
      · rw [if_pos q23] at h
        refine fx_aload_n (pc' := 84) hF d_FL_init_83 rfl 0 rfl rfl ?_
        obtain ⟨a24, L25, ea24, eL25, ba24, ca24, sa24, h⟩ := fw_nw_some h
        obtain ⟨I26, eI26, h⟩ := fw_let_some h
        refine fx_new (pc' := 87) (hC L) hg hsz hA hk0 (by decide) hl ea24 eL25 eI26 ca24 sa24 (by decide) rfl rfl iw_CH ty_CH tyok_CH df_CH (hw _ wq_1_66) (hw _ wq_1_67) (hw _ wq_1_4) d_FL_init_84 rfl ?_
        have hk27 : (fw_k L25 k0).1 = 5 := fw_k_old eL25 hk0 (by decide)
        have ka24 : (fw_k L25 a24).1 = 0 := fw_k_new ea24 eL25
        have hl28 : l0 ≤ L25.length := fw_hl eL25 hl
        refine fx_dup (pc' := 88) hF d_FL_init_87 rfl rfl ?_
        obtain ⟨L29, I30, c31, eL29, nL29, sL29, mL29, h⟩ := fw_bc_some h
        obtain ⟨xL29, eL29⟩ := eL29
        refine fx_ctorN (pc' := 91) (As := []) (st := [.ref (g a24), .ref (g k0)]) (hC L25) hN hg hsz hA hk27 (by decide) hl28 eL29 nL29 sL29 mL29 (ct_CH_init l D aC g b L25.length L25 I26 a24 (L29, I30) hg rfl ka24 c31) ⟨va_cnB 0 hF.2.2.2.2 (fw_gN wq_1_70) rfl rfl rfl (hN.1 _ wn_1_68) (hw _ wq_1_4) ⟨by decide +kernel, by decide +kernel, by decide +kernel⟩ ⟨Nat.le_of_ble_eq_true rfl, Nat.le_of_ble_eq_true rfl⟩, rfl, hw _ wq_1_69⟩ rfl rfl (Nat.le_of_ble_eq_true rfl) d_FL_init_88 rfl ?_
        have hk32 : (fw_k L29 k0).1 = 5 := fw_k_old eL29 hk27 (by decide)
        have hk33 : (fw_k L29 a24).1 = 0 := fw_k_old eL29 ka24 (by decide)
        have hl34 : l0 ≤ L29.length := fw_hl eL29 hl28
        obtain ⟨I35, eI35, h⟩ := fw_let_some h
        refine fx_putrF (pc' := 94) (hC L29) hk32 (by decide) rfl iw_FL 4 (by decide) (by decide) rfl (fw_nn ba24) (fw_ne ba24) ty_FL tyok_FL nn_FL rfl hin rfl eI35 (tyok_FL 4 (by decide)) rfl rfl (hw _ wq_1_197) rfl d_FL_init_91 rfl ?_
        refine fx_aload_n (pc' := 95) hF d_FL_init_94 rfl 0 rfl rfl ?_
        obtain ⟨a36, L37, ea36, eL37, ba36, ca36, sa36, h⟩ := fw_nw_some h
        obtain ⟨I38, eI38, h⟩ := fw_let_some h
        refine fx_new (pc' := 98) (hC L29) hg hsz hA hk32 (by decide) hl34 ea36 eL37 eI38 ca36 sa36 (by decide) rfl rfl iw_WR ty_WR tyok_WR df_WR (hw _ wq_1_130) (hw _ wq_1_131) (hw _ wq_1_6) d_FL_init_95 rfl ?_
        have hk39 : (fw_k L37 k0).1 = 5 := fw_k_old eL37 hk32 (by decide)
        have ka36 : (fw_k L37 a36).1 = 4 := fw_k_new ea36 eL37
        have hl40 : l0 ≤ L37.length := fw_hl eL37 hl34
        refine fx_dup (pc' := 99) hF d_FL_init_98 rfl rfl ?_
        obtain ⟨L41, I42, c43, eL41, nL41, sL41, mL41, h⟩ := fw_bc_some h
        obtain ⟨xL41, eL41⟩ := eL41
        refine fx_ctorN (pc' := 102) (As := []) (st := [.ref (g a36), .ref (g k0)]) (hC L37) hN hg hsz hA hk39 (by decide) hl40 eL41 nL41 sL41 mL41 (ct_WR_init l D aC g b L37.length L37 I38 a36 (L41, I42) hg rfl ka36 c43) ⟨va_cnB 0 hF.2.2.2.2 (fw_gN wq_1_134) rfl rfl rfl (hN.1 _ wn_1_132) (hw _ wq_1_6) ⟨by decide +kernel, by decide +kernel, by decide +kernel⟩ ⟨Nat.le_of_ble_eq_true rfl, Nat.le_of_ble_eq_true rfl⟩, rfl, hw _ wq_1_133⟩ rfl rfl (Nat.le_of_ble_eq_true rfl) d_FL_init_99 rfl ?_
        have hk44 : (fw_k L41 k0).1 = 5 := fw_k_old eL41 hk39 (by decide)
        have hk45 : (fw_k L41 a36).1 = 4 := fw_k_old eL41 ka36 (by decide)
        have hl46 : l0 ≤ L41.length := fw_hl eL41 hl40
        obtain ⟨I47, eI47, h⟩ := fw_let_some h
        refine fx_putrF (pc' := 105) (hC L41) hk44 (by decide) rfl iw_FL 5 (by decide) (by decide) rfl (fw_nn ba36) (fw_ne ba36) ty_FL tyok_FL nn_FL rfl hin rfl eI47 (tyok_FL 5 (by decide)) rfl rfl (hw _ wq_1_198) rfl d_FL_init_102 rfl ?_
        refine fx_aload_n (pc' := 106) hF d_FL_init_105 rfl 0 rfl rfl ?_
        refine fx_iconst (pc' := 107) hF (v := (2 : Int32)) d_FL_init_106 rfl rfl ?_
        obtain ⟨a48, L49, ea48, eL49, ba48, ca48, sa48, h⟩ := fw_nw_some h
        obtain ⟨I50, eI50, h⟩ := fw_let_some h
        refine fx_anew (pc' := 110) (hC L41) hg hsz hA hk44 (by decide) hl46 ea48 eL49 eI50 ca48 sa48 (by decide) (fw_RAo ((hC []).2.1.2 5 _ rfl).2) hN.2.2.2 (hw _ wq_1_157) (by decide) rfl (by decide) d_FL_init_107 rfl ?_
        have hk51 : (fw_k L49 k0).1 = 5 := fw_k_old eL49 hk44 (by decide)
        have ka48 : (fw_k L49 a48).1 = 25 := fw_k_new ea48 eL49
        have hl52 : l0 ≤ L49.length := fw_hl eL49 hl46
        obtain ⟨I53, eI53, h⟩ := fw_let_some h
        refine fx_putrF (pc' := 113) (hC L49) hk51 (by decide) rfl iw_FL 6 (by decide) (by decide) rfl (fw_nn ba48) (fw_ne ba48) ty_FL tyok_FL nn_FL rfl hin rfl eI53 (tyok_FL 6 (by decide)) rfl rfl (hw _ wq_1_199) rfl d_FL_init_110 rfl ?_
        refine fx_iconst (pc' := 114) hF (v := (0 : Int32)) d_FL_init_113 rfl rfl ?_
        refine fx_istore (pc' := 116) hF (lv' := [(4, .int (0 : Int32)), (0, .ref (g k0))]) d_FL_init_114 (by decide) rfl rfl ?_
        refine fx_lv [1, 0] rfl ?_
        exact B116 200 L49 I53 (0 : Int32) hk51 hl52 h
      · rw [if_neg q23] at h
        refine fx_aload_n (pc' := 64) hF d_FL_init_63 rfl 0 rfl rfl ?_
        obtain ⟨a75, na75, ea75, ka75, h⟩ := fw_ld_some h
        refine fx_getr (pc' := 67) (hC L) hk0 (by decide) rfl iw_FL 3 (by decide) (by decide) rfl na75 ea75 (hw _ wq_1_196) rfl d_FL_init_64 rfl ?_
        refine fx_iload (pc' := 69) hF d_FL_init_67 1 rfl rfl ?_
        obtain ⟨a76, L77, ea76, eL77, ba76, ca76, sa76, h⟩ := fw_nw_some h
        obtain ⟨I78, eI78, h⟩ := fw_let_some h
        refine fx_new (pc' := 72) (hC L) hg hsz hA hk0 (by decide) hl ea76 eL77 eI78 ca76 sa76 (by decide) rfl rfl iw_ST ty_ST tyok_ST df_ST (hw _ wq_1_33) (hw _ wq_1_35) (hw _ wq_1_3) d_FL_init_69 rfl ?_
        have hk79 : (fw_k L77 k0).1 = 5 := fw_k_old eL77 hk0 (by decide)
        have hk80 : (fw_k L77 a75).1 = 23 := fw_k_old eL77 ka75 (by decide)
        have ka76 : (fw_k L77 a76).1 = 3 := fw_k_new ea76 eL77
        have hl81 : l0 ≤ L77.length := fw_hl eL77 hl
        refine fx_dup (pc' := 73) hF d_FL_init_72 rfl rfl ?_
        obtain ⟨L82, I83, c84, eL82, nL82, sL82, mL82, h⟩ := fw_bc_some h
        obtain ⟨xL82, eL82⟩ := eL82
        refine fx_ctorN (pc' := 76) (As := []) (st := [.ref (g a76), .int x4, .ref (g a75)]) (hC L77) hN hg hsz hA hk79 (by decide) hl81 eL82 nL82 sL82 mL82 (ct_ST_init l D aC g b L77.length L77 I78 a76 (L82, I83) hg rfl ka76 c84) ⟨va_cnB 0 hF.2.2.2.2 (fw_gN wq_1_38) rfl rfl rfl (hN.1 _ wn_1_36) (hw _ wq_1_3) ⟨by decide +kernel, by decide +kernel, by decide +kernel⟩ ⟨Nat.le_of_ble_eq_true rfl, Nat.le_of_ble_eq_true rfl⟩, rfl, hw _ wq_1_37⟩ rfl rfl (Nat.le_of_ble_eq_true rfl) d_FL_init_73 rfl ?_
        have hk85 : (fw_k L82 k0).1 = 5 := fw_k_old eL82 hk79 (by decide)
        have hk86 : (fw_k L82 a75).1 = 23 := fw_k_old eL82 hk80 (by decide)
        have hk87 : (fw_k L82 a76).1 = 3 := fw_k_old eL82 ka76 (by decide)
        have hl88 : l0 ≤ L82.length := fw_hl eL82 hl81
        obtain ⟨q89, h⟩ := fw_gd_some h
        obtain ⟨I90, eI90, h⟩ := fw_let_some h
        refine fx_aast23 (pc' := 77) (hC L82) hk86 q89 eI90 hk87 (fw_nn ba76) (fw_ne ba76) d_FL_init_76 rfl ?_
        refine fx_iinc (pc' := 80) hF (v := x4 + 1) (lv' := [(4, .int (x4 + 1)), (0, .ref (g k0))]) d_FL_init_77 1 rfl rfl (by decide) rfl rfl ?_
        refine fx_goto hF (tgt := 54) d_FL_init_80 rfl ?_
        refine fx_lv [1, 0] rfl ?_
        exact ih L82 I90 (x4 + 1) hk85 hl88 h
  change fw_G p l e r_FL_init s m args below meth c (L.length - l0) (fw_ss l0 L) Q 5 D aC A g L.length (fw_k L) I 0 [(0, .ref (g k0)), (1, .int x1), (2, .int x2), (3, .int x3)] []
  refine fx_aload_n (pc' := 1) hF d_FL_init_0 rfl 0 rfl rfl ?_
  refine fx_objInit (pc' := 4) hF (hw _ wq_1_21) (hw _ wq_1_22) (hw _ wq_1_23) (Nat.le_of_ble_eq_true rfl) (Nat.le_of_ble_eq_true rfl) d_FL_init_1 rfl ?_
  refine fx_aload_n (pc' := 5) hF d_FL_init_4 rfl 0 rfl rfl ?_
  refine fx_iload_n (pc' := 6) hF d_FL_init_5 rfl 1 rfl rfl ?_
  refine fx_iconst (pc' := 7) hF (v := (3 : Int32)) d_FL_init_6 rfl rfl ?_
  refine fx_iconst (pc' := 8) hF (v := (5 : Int32)) d_FL_init_7 rfl rfl ?_
  obtain ⟨q1, h⟩ := fw_gd_some h
  obtain ⟨r4, I2, c3, h⟩ := fw_bd_some h
  refine fx_callSi (pc' := 11) (As := [.int x1, .int (3 : Int32), .int (5 : Int32)]) (st := [.ref (g k0)]) (hC L) hN hA (ct_FL_nearest l D aC g L.length (fw_k L) I x1 (3 : Int32) (5 : Int32) (r4, I2) fw_k_lt c3) (va_cwS 3 hF.2.2.2.2 (fw_gS wq_1_24 wq_1_25 wq_1_1 wq_1_26) rfl rfl rfl ⟨by decide +kernel, by decide +kernel, by decide +kernel⟩ ⟨Nat.le_of_ble_eq_true rfl, Nat.le_of_ble_eq_true rfl⟩) (of_decide_eq_true q1) rfl rfl (Nat.le_of_ble_eq_true rfl) d_FL_init_8 rfl ?_
  obtain ⟨I5, eI5, h⟩ := fw_let_some h
  refine fx_putiF (pc' := 14) (hC L) hk0 (by decide) rfl iw_FL 0 (by decide) (by decide) rfl ty_FL tyok_FL nn_FL rfl hin rfl eI5 (tyok_FL 0 (by decide)) rfl rfl (hw _ wq_1_193) rfl d_FL_init_11 rfl ?_
  refine fx_aload_n (pc' := 15) hF d_FL_init_14 rfl 0 rfl rfl ?_
  refine fx_iload_n (pc' := 16) hF d_FL_init_15 rfl 2 rfl rfl ?_
  refine fx_iconst (pc' := 17) hF (v := (2 : Int32)) d_FL_init_16 rfl rfl ?_
  refine fx_aload_n (pc' := 18) hF d_FL_init_17 rfl 0 rfl rfl ?_
  refine fx_geti (pc' := 21) (hC L) hk0 (by decide) rfl iw_FL 0 (by decide) (by decide) rfl (hw _ wq_1_193) rfl d_FL_init_18 rfl ?_
  obtain ⟨q6, h⟩ := fw_gd_some h
  obtain ⟨r9, I7, c8, h⟩ := fw_bd_some h
  refine fx_callSi (pc' := 24) (As := [.int x2, .int (2 : Int32), .int (I5 k0 0)]) (st := [.ref (g k0)]) (hC L) hN hA (ct_FL_nearest l D aC g L.length (fw_k L) I5 x2 (2 : Int32) (I5 k0 0) (r9, I7) fw_k_lt c8) (va_cwS 3 hF.2.2.2.2 (fw_gS wq_1_24 wq_1_25 wq_1_1 wq_1_26) rfl rfl rfl ⟨by decide +kernel, by decide +kernel, by decide +kernel⟩ ⟨Nat.le_of_ble_eq_true rfl, Nat.le_of_ble_eq_true rfl⟩) (of_decide_eq_true q6) rfl rfl (Nat.le_of_ble_eq_true rfl) d_FL_init_21 rfl ?_
  obtain ⟨I10, eI10, h⟩ := fw_let_some h
  refine fx_putiF (pc' := 27) (hC L) hk0 (by decide) rfl iw_FL 1 (by decide) (by decide) rfl ty_FL tyok_FL nn_FL rfl hin rfl eI10 (tyok_FL 1 (by decide)) rfl rfl (hw _ wq_1_194) rfl d_FL_init_24 rfl ?_
  refine fx_aload_n (pc' := 28) hF d_FL_init_27 rfl 0 rfl rfl ?_
  refine fx_iload_n (pc' := 29) hF d_FL_init_28 rfl 3 rfl rfl ?_
  refine fx_iconst (pc' := 30) hF (v := (1 : Int32)) d_FL_init_29 rfl rfl ?_
  refine fx_aload_n (pc' := 31) hF d_FL_init_30 rfl 0 rfl rfl ?_
  refine fx_geti (pc' := 34) (hC L) hk0 (by decide) rfl iw_FL 1 (by decide) (by decide) rfl (hw _ wq_1_194) rfl d_FL_init_31 rfl ?_
  obtain ⟨q11, h⟩ := fw_gd_some h
  obtain ⟨r14, I12, c13, h⟩ := fw_bd_some h
  refine fx_callSi (pc' := 37) (As := [.int x3, .int (1 : Int32), .int (I10 k0 1)]) (st := [.ref (g k0)]) (hC L) hN hA (ct_FL_nearest l D aC g L.length (fw_k L) I10 x3 (1 : Int32) (I10 k0 1) (r14, I12) fw_k_lt c13) (va_cwS 3 hF.2.2.2.2 (fw_gS wq_1_24 wq_1_25 wq_1_1 wq_1_26) rfl rfl rfl ⟨by decide +kernel, by decide +kernel, by decide +kernel⟩ ⟨Nat.le_of_ble_eq_true rfl, Nat.le_of_ble_eq_true rfl⟩) (of_decide_eq_true q11) rfl rfl (Nat.le_of_ble_eq_true rfl) d_FL_init_34 rfl ?_
  obtain ⟨I15, eI15, h⟩ := fw_let_some h
  refine fx_putiF (pc' := 40) (hC L) hk0 (by decide) rfl iw_FL 2 (by decide) (by decide) rfl ty_FL tyok_FL nn_FL rfl hin rfl eI15 (tyok_FL 2 (by decide)) rfl rfl (hw _ wq_1_195) rfl d_FL_init_37 rfl ?_
  refine fx_aload_n (pc' := 41) hF d_FL_init_40 rfl 0 rfl rfl ?_
  refine fx_aload_n (pc' := 42) hF d_FL_init_41 rfl 0 rfl rfl ?_
  refine fx_geti (pc' := 45) (hC L) hk0 (by decide) rfl iw_FL 0 (by decide) (by decide) rfl (hw _ wq_1_193) rfl d_FL_init_42 rfl ?_
  obtain ⟨q19, h⟩ := fw_gd_some h
  obtain ⟨a16, L17, ea16, eL17, ba16, ca16, sa16, h⟩ := fw_nw_some h
  obtain ⟨I18, eI18, h⟩ := fw_let_some h
  refine fx_anew (pc' := 48) (hC L) hg hsz hA hk0 (by decide) hl ea16 eL17 eI18 ca16 sa16 (by decide) (fw_RAo ((hC []).2.1.2 3 _ rfl).2) hN.2.1 (hw _ wq_1_33) (of_decide_eq_true q19).1 rfl (of_decide_eq_true q19).2 d_FL_init_45 rfl ?_
  have hk20 : (fw_k L17 k0).1 = 5 := fw_k_old eL17 hk0 (by decide)
  have ka16 : (fw_k L17 a16).1 = 23 := fw_k_new ea16 eL17
  have hl21 : l0 ≤ L17.length := fw_hl eL17 hl
  obtain ⟨I22, eI22, h⟩ := fw_let_some h
  refine fx_putrF (pc' := 51) (hC L17) hk20 (by decide) rfl iw_FL 3 (by decide) (by decide) rfl (fw_nn ba16) (fw_ne ba16) ty_FL tyok_FL nn_FL rfl hin rfl eI22 (tyok_FL 3 (by decide)) rfl rfl (hw _ wq_1_196) rfl d_FL_init_48 rfl ?_
  refine fx_iconst (pc' := 52) hF (v := (0 : Int32)) d_FL_init_51 rfl rfl ?_
  refine fx_istore (pc' := 54) hF (lv' := [(4, .int (0 : Int32)), (0, .ref (g k0)), (1, .int x1), (2, .int x2), (3, .int x3)]) d_FL_init_52 (by decide) rfl rfl ?_
  refine fx_lv [1, 0] rfl ?_
  exact B54 200 L17 I22 (0 : Int32) hk20 hl21 h
