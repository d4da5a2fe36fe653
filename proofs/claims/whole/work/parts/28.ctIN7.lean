set_option maxHeartbeats 4000000 in
set_option maxRecDepth 100000 in
theorem ct_MD_init (l : Launch) (D : va_G) (aC : Nat → ClassId) (g : Nat → Nat) (b l0 : Nat) (L : List (Nat × Nat)) (I : Nat → Nat → Int32) (k0 : Nat) (x1 : Int32) (x2 : Int32) (x3 : Int32) (Rr : List (Nat × Nat) × (Nat → Nat → Int32)) (hg : ∀ k, g k = b + k) (hl0 : L.length = l0) (hk0 : ((fw_k L) k0).1 = 6) (h : fnc_MD_init l0 L I k0 x1 x2 x3 = some Rr) : fw_Mc l y_MD_init w_MD_init r_MD_init D aC g b L I [.ref (g k0), .int x1, .int x2, .int x3] Rr 14 505 := by
  refine fw_ofGc (cc := b_MD_init) (maxL := 5) (ws' := fw_ws) (by decide +kernel) hg hl0 (Nat.le_of_ble_eq_true rfl) rfl rfl ?_
  intro p e s m args below meth c A Q hC hN hA hsz hin he
  have hF := (hC []).1
  have hl : l0 ≤ L.length := Nat.le_of_eq hl0.symm
  have hw : ∀ w ∈ fw_ws, w.before args s = true := fun w hw => hF.2.2.2.2 w (List.mem_cons_of_mem _ hw)
  unfold fnc_MD_init at h
  have B203 : ∀ (f : Nat) (L : List (Nat × Nat)) (I : Nat → Nat → Int32) (x4 : Int32) (hk0 : (fw_k L k0).1 = 6) (hl : l0 ≤ L.length), fnc_MD_init_203 l0 f L I k0 x4 = some Rr → fw_G p l e r_MD_init s m args below meth c (L.length - l0) (fw_ss l0 L) Q 5 D aC A g L.length (fw_k L) I 203 [(0, .ref (g k0)), (4, .int x4)] [] := by
    intro f
    induction f with
    | zero =>
      intro L I x4 hk0 hl h
      rw [fnc_MD_init_203] at h
      cases h
    | succ f ih =>
      intro L I x4 hk0 hl h
      rw [fnc_MD_init_203] at h
      refine fx_iload (pc' := 205) hF d_MD_init_203 1 rfl rfl ?_
      refine fx_iconst (pc' := 206) hF (v := (5 : Int32)) d_MD_init_205 rfl rfl ?_
      refine fx_icmp_ge hF (tgt := 223) (pc' := 209) d_MD_init_206 rfl rfl (fun q96 => ?_) (fun q96 => ?_)
      · rw [if_pos q96] at h
        refine fx_aload_n (pc' := 224) hF d_MD_init_223 rfl 0 rfl rfl ?_
        obtain ⟨a97, na97, ea97, ka97, h⟩ := fw_ld_some h
        refine fx_getr (pc' := 227) (hC L) hk0 (by decide) rfl iw_MD 22 (by decide) (by decide) rfl na97 ea97 (hw _ wq_3_138) rfl d_MD_init_224 rfl ?_
        refine fx_iconst (pc' := 228) hF (v := (1 : Int32)) d_MD_init_227 rfl rfl ?_
        refine fx_iconst (pc' := 229) hF (v := (-1 : Int32)) d_MD_init_228 rfl rfl ?_
        obtain ⟨q98, h⟩ := fw_gd_some h
        obtain ⟨I99, eI99, h⟩ := fw_let_some h
        refine fx_iast (pc' := 230) (hC L) ka97 q98 eI99 d_MD_init_229 rfl ?_
        refine fx_aload_n (pc' := 231) hF d_MD_init_230 rfl 0 rfl rfl ?_
        obtain ⟨a100, na100, ea100, ka100, h⟩ := fw_ld_some h
        refine fx_getr (pc' := 234) (hC L) hk0 (by decide) rfl iw_MD 22 (by decide) (by decide) rfl na100 ea100 (hw _ wq_3_138) rfl d_MD_init_231 rfl ?_
        refine fx_iconst (pc' := 235) hF (v := (2 : Int32)) d_MD_init_234 rfl rfl ?_
        refine fx_iconst (pc' := 236) hF (v := (-1 : Int32)) d_MD_init_235 rfl rfl ?_
        obtain ⟨q101, h⟩ := fw_gd_some h
        obtain ⟨I102, eI102, h⟩ := fw_let_some h
        refine fx_iast (pc' := 237) (hC L) ka100 q101 eI102 d_MD_init_236 rfl ?_
        obtain ⟨q103, h⟩ := fw_gd_some h
        exact he L I102 _ _ d_MD_init_237 (of_decide_eq_true q103).1 (of_decide_eq_true q103).2 h
      · rw [if_neg q96] at h
        refine fx_aload_n (pc' := 210) hF d_MD_init_209 rfl 0 rfl rfl ?_
        obtain ⟨a104, na104, ea104, ka104, h⟩ := fw_ld_some h
        refine fx_getr (pc' := 213) (hC L) hk0 (by decide) rfl iw_MD 6 (by decide) (by decide) rfl na104 ea104 (hw _ wq_3_122) rfl d_MD_init_210 rfl ?_
        refine fx_iload (pc' := 215) hF d_MD_init_213 1 rfl rfl ?_
        refine fx_iconst (pc' := 216) hF (v := (-1 : Int32)) d_MD_init_215 rfl rfl ?_
        obtain ⟨q105, h⟩ := fw_gd_some h
        obtain ⟨I106, eI106, h⟩ := fw_let_some h
        refine fx_iast (pc' := 217) (hC L) ka104 q105 eI106 d_MD_init_216 rfl ?_
        refine fx_iinc (pc' := 220) hF (v := x4 + 1) (lv' := [(4, .int (x4 + 1)), (0, .ref (g k0))]) d_MD_init_217 1 rfl rfl (by decide) rfl rfl ?_
        refine fx_goto hF (tgt := 203) d_MD_init_220 rfl ?_
        refine fx_lv [1, 0] rfl ?_
        exact ih L I106 (x4 + 1) hk0 hl h
  have B197 : ∀ (L : List (Nat × Nat)) (I : Nat → Nat → Int32) (s1 : Int32) (hk0 : (fw_k L k0).1 = 6) (hl : l0 ≤ L.length), fnc_MD_init_197 l0 L I k0 s1 = some Rr → fw_G p l e r_MD_init s m args below meth c (L.length - l0) (fw_ss l0 L) Q 5 D aC A g L.length (fw_k L) I 197 [(0, .ref (g k0))] [.int s1, .ref (g k0)] := by
    intro L I s1 hk0 hl h
    unfold fnc_MD_init_197 at h
    obtain ⟨I95, eI95, h⟩ := fw_let_some h
    refine fx_puti (pc' := 200) (hC L) hk0 (by decide) rfl iw_MD 3 (by decide) (by decide) rfl ty_MD tyok_MD nn_MD rfl eI95 (tyok_MD 3 (by decide)) rfl rfl (hw _ wq_3_119) rfl d_MD_init_197 rfl ?_
    refine fx_iconst (pc' := 201) hF (v := (0 : Int32)) d_MD_init_200 rfl rfl ?_
    refine fx_istore (pc' := 203) hF (lv' := [(4, .int (0 : Int32)), (0, .ref (g k0))]) d_MD_init_201 (by decide) rfl rfl ?_
    refine fx_lv [1, 0] rfl ?_
    exact B203 200 L I95 (0 : Int32) hk0 hl h
  have B168 : ∀ (L : List (Nat × Nat)) (I : Nat → Nat → Int32) (x3 : Int32) (s1 : Int32) (hk0 : (fw_k L k0).1 = 6) (hl : l0 ≤ L.length), fnc_MD_init_168 l0 L I k0 x3 s1 = some Rr → fw_G p l e r_MD_init s m args below meth c (L.length - l0) (fw_ss l0 L) Q 5 D aC A g L.length (fw_k L) I 168 [(0, .ref (g k0)), (3, .int x3)] [.int s1, .ref (g k0)] := by
    intro L I x3 s1 hk0 hl h
    unfold fnc_MD_init_168 at h
    obtain ⟨I92, eI92, h⟩ := fw_let_some h
    refine fx_puti (pc' := 171) (hC L) hk0 (by decide) rfl iw_MD 2 (by decide) (by decide) rfl ty_MD tyok_MD nn_MD rfl eI92 (tyok_MD 2 (by decide)) rfl rfl (hw _ wq_3_118) rfl d_MD_init_168 rfl ?_
    refine fx_aload_n (pc' := 172) hF d_MD_init_171 rfl 0 rfl rfl ?_
    refine fx_iload_n (pc' := 173) hF d_MD_init_172 rfl 1 rfl rfl ?_
    refine fx_iconst (pc' := 174) hF (v := (1 : Int32)) d_MD_init_173 rfl rfl ?_
    refine fx_icmp_ge hF (tgt := 181) (pc' := 177) d_MD_init_174 rfl rfl (fun q93 => ?_) (fun q93 => ?_)
    · rw [if_pos q93] at h
      refine fx_iload_n (pc' := 182) hF d_MD_init_181 rfl 1 rfl rfl ?_
      refine fx_aload_n (pc' := 183) hF d_MD_init_182 rfl 0 rfl rfl ?_
      refine fx_geti (pc' := 186) (hC L) hk0 (by decide) rfl iw_MD 2 (by decide) (by decide) rfl (hw _ wq_3_118) rfl d_MD_init_183 rfl ?_
      refine fx_icmp_le hF (tgt := 196) (pc' := 189) d_MD_init_186 rfl rfl (fun q94 => ?_) (fun q94 => ?_)
      · rw [if_pos q94] at h
        refine fx_iload_n (pc' := 197) hF d_MD_init_196 rfl 1 rfl rfl ?_
        refine fx_lv [0] rfl ?_
        exact B197 L I92 x3 hk0 hl h
      · rw [if_neg q94] at h
        refine fx_aload_n (pc' := 190) hF d_MD_init_189 rfl 0 rfl rfl ?_
        refine fx_geti (pc' := 193) (hC L) hk0 (by decide) rfl iw_MD 2 (by decide) (by decide) rfl (hw _ wq_3_118) rfl d_MD_init_190 rfl ?_
        refine fx_goto hF (tgt := 197) d_MD_init_193 rfl ?_
        refine fx_lv [0] rfl ?_
        exact B197 L I92 (I92 k0 2) hk0 hl h
    · rw [if_neg q93] at h
      refine fx_iconst (pc' := 178) hF (v := (1 : Int32)) d_MD_init_177 rfl rfl ?_
      refine fx_goto hF (tgt := 197) d_MD_init_178 rfl ?_
      refine fx_lv [0] rfl ?_
      exact B197 L I92 (1 : Int32) hk0 hl h
  have B139 : ∀ (L : List (Nat × Nat)) (I : Nat → Nat → Int32) (x2 : Int32) (x3 : Int32) (s1 : Int32) (hk0 : (fw_k L k0).1 = 6) (hl : l0 ≤ L.length), fnc_MD_init_139 l0 L I k0 x2 x3 s1 = some Rr → fw_G p l e r_MD_init s m args below meth c (L.length - l0) (fw_ss l0 L) Q 5 D aC A g L.length (fw_k L) I 139 [(0, .ref (g k0)), (2, .int x2), (3, .int x3)] [.int s1, .ref (g k0)] := by
    intro L I x2 x3 s1 hk0 hl h
    unfold fnc_MD_init_139 at h
    obtain ⟨I89, eI89, h⟩ := fw_let_some h
    refine fx_puti (pc' := 142) (hC L) hk0 (by decide) rfl iw_MD 1 (by decide) (by decide) rfl ty_MD tyok_MD nn_MD rfl eI89 (tyok_MD 1 (by decide)) rfl rfl (hw _ wq_3_117) rfl d_MD_init_139 rfl ?_
    refine fx_aload_n (pc' := 143) hF d_MD_init_142 rfl 0 rfl rfl ?_
    refine fx_iload_n (pc' := 144) hF d_MD_init_143 rfl 1 rfl rfl ?_
    refine fx_iconst (pc' := 145) hF (v := (2 : Int32)) d_MD_init_144 rfl rfl ?_
    refine fx_icmp_ge hF (tgt := 152) (pc' := 148) d_MD_init_145 rfl rfl (fun q90 => ?_) (fun q90 => ?_)
    · rw [if_pos q90] at h
      refine fx_iload_n (pc' := 153) hF d_MD_init_152 rfl 1 rfl rfl ?_
      refine fx_aload_n (pc' := 154) hF d_MD_init_153 rfl 0 rfl rfl ?_
      refine fx_geti (pc' := 157) (hC L) hk0 (by decide) rfl iw_MD 1 (by decide) (by decide) rfl (hw _ wq_3_117) rfl d_MD_init_154 rfl ?_
      refine fx_icmp_le hF (tgt := 167) (pc' := 160) d_MD_init_157 rfl rfl (fun q91 => ?_) (fun q91 => ?_)
      · rw [if_pos q91] at h
        refine fx_iload_n (pc' := 168) hF d_MD_init_167 rfl 1 rfl rfl ?_
        refine fx_lv [0, 2] rfl ?_
        exact B168 L I89 x3 x2 hk0 hl h
      · rw [if_neg q91] at h
        refine fx_aload_n (pc' := 161) hF d_MD_init_160 rfl 0 rfl rfl ?_
        refine fx_geti (pc' := 164) (hC L) hk0 (by decide) rfl iw_MD 1 (by decide) (by decide) rfl (hw _ wq_3_117) rfl d_MD_init_161 rfl ?_
        refine fx_goto hF (tgt := 168) d_MD_init_164 rfl ?_
        refine fx_lv [0, 2] rfl ?_
        exact B168 L I89 x3 (I89 k0 1) hk0 hl h
    · rw [if_neg q90] at h
      refine fx_iconst (pc' := 149) hF (v := (2 : Int32)) d_MD_init_148 rfl rfl ?_
      refine fx_goto hF (tgt := 168) d_MD_init_149 rfl ?_
      refine fx_lv [0, 2] rfl ?_
      exact B168 L I89 x3 (2 : Int32) hk0 hl h
  change fw_G p l e r_MD_init s m args below meth c (L.length - l0) (fw_ss l0 L) Q 5 D aC A g L.length (fw_k L) I 0 [(0, .ref (g k0)), (1, .int x1), (2, .int x2), (3, .int x3)] []
  refine fx_aload_n (pc' := 1) hF d_MD_init_0 rfl 0 rfl rfl ?_
  refine fx_objInit (pc' := 4) hF (hw _ wq_3_115) (hw _ wq_1_22) (hw _ wq_1_23) (Nat.le_of_ble_eq_true rfl) (Nat.le_of_ble_eq_true rfl) d_MD_init_1 rfl ?_
  refine fx_aload_n (pc' := 5) hF d_MD_init_4 rfl 0 rfl rfl ?_
  refine fx_iconst (pc' := 6) hF (v := (5 : Int32)) d_MD_init_5 rfl rfl ?_
  obtain ⟨a1, L2, ea1, eL2, ba1, ca1, sa1, h⟩ := fw_nw_some h
  obtain ⟨I3, eI3, h⟩ := fw_let_some h
  refine fx_newa (ty := .boolean) (atype := .boolean) (pc' := 8) (hC L) hg hsz hA hk0 (by decide) hl ea1 eL2 eI3 ca1 sa1 (by decide) rfl (fw_RA21 ((hC []).2.1.2 1 _ rfl).2) fw_cell21 (by decide) (hw _ wq_1_64) (by decide) rfl (by decide) d_MD_init_6 rfl ?_
  have hk4 : (fw_k L2 k0).1 = 6 := fw_k_old eL2 hk0 (by decide)
  have ka1 : (fw_k L2 a1).1 = 21 := fw_k_new ea1 eL2
  have hl5 : l0 ≤ L2.length := fw_hl eL2 hl
  obtain ⟨I6, eI6, h⟩ := fw_let_some h
  refine fx_putr (pc' := 11) (hC L2) hk4 (by decide) rfl iw_MD 4 (by decide) (by decide) rfl (fw_nn ba1) (fw_ne ba1) ty_MD tyok_MD nn_MD rfl eI6 (tyok_MD 4 (by decide)) rfl rfl (hw _ wq_3_120) rfl d_MD_init_8 rfl ?_
  refine fx_aload_n (pc' := 12) hF d_MD_init_11 rfl 0 rfl rfl ?_
  refine fx_iconst (pc' := 13) hF (v := (5 : Int32)) d_MD_init_12 rfl rfl ?_
  obtain ⟨a7, L8, ea7, eL8, ba7, ca7, sa7, h⟩ := fw_nw_some h
  obtain ⟨I9, eI9, h⟩ := fw_let_some h
  refine fx_newa (ty := .boolean) (atype := .boolean) (pc' := 15) (hC L2) hg hsz hA hk4 (by decide) hl5 ea7 eL8 eI9 ca7 sa7 (by decide) rfl (fw_RA21 ((hC []).2.1.2 1 _ rfl).2) fw_cell21 (by decide) (hw _ wq_1_64) (by decide) rfl (by decide) d_MD_init_13 rfl ?_
  have hk10 : (fw_k L8 k0).1 = 6 := fw_k_old eL8 hk4 (by decide)
  have ka7 : (fw_k L8 a7).1 = 21 := fw_k_new ea7 eL8
  have hl11 : l0 ≤ L8.length := fw_hl eL8 hl5
  obtain ⟨I12, eI12, h⟩ := fw_let_some h
  refine fx_putr (pc' := 18) (hC L8) hk10 (by decide) rfl iw_MD 5 (by decide) (by decide) rfl (fw_nn ba7) (fw_ne ba7) ty_MD tyok_MD nn_MD rfl eI12 (tyok_MD 5 (by decide)) rfl rfl (hw _ wq_3_121) rfl d_MD_init_15 rfl ?_
  refine fx_aload_n (pc' := 19) hF d_MD_init_18 rfl 0 rfl rfl ?_
  refine fx_iconst (pc' := 20) hF (v := (5 : Int32)) d_MD_init_19 rfl rfl ?_
  obtain ⟨a13, L14, ea13, eL14, ba13, ca13, sa13, h⟩ := fw_nw_some h
  obtain ⟨I15, eI15, h⟩ := fw_let_some h
  refine fx_newa (ty := .int) (atype := .int) (pc' := 22) (hC L8) hg hsz hA hk10 (by decide) hl11 ea13 eL14 eI15 ca13 sa13 (by decide) rfl (fw_RA20 ((hC []).2.1.2 0 _ rfl).2) fw_cell20 (by decide) (hw _ wq_1_65) (by decide) rfl (by decide) d_MD_init_20 rfl ?_
  have hk16 : (fw_k L14 k0).1 = 6 := fw_k_old eL14 hk10 (by decide)
  have ka13 : (fw_k L14 a13).1 = 20 := fw_k_new ea13 eL14
  have hl17 : l0 ≤ L14.length := fw_hl eL14 hl11
  obtain ⟨I18, eI18, h⟩ := fw_let_some h
  refine fx_putr (pc' := 25) (hC L14) hk16 (by decide) rfl iw_MD 6 (by decide) (by decide) rfl (fw_nn ba13) (fw_ne ba13) ty_MD tyok_MD nn_MD rfl eI18 (tyok_MD 6 (by decide)) rfl rfl (hw _ wq_3_122) rfl d_MD_init_22 rfl ?_
  refine fx_aload_n (pc' := 26) hF d_MD_init_25 rfl 0 rfl rfl ?_
  refine fx_bipush (pc' := 28) hF (v := (100 : Int32)) d_MD_init_26 rfl rfl ?_
  obtain ⟨a19, L20, ea19, eL20, ba19, ca19, sa19, h⟩ := fw_nw_some h
  obtain ⟨I21, eI21, h⟩ := fw_let_some h
  refine fx_newa (ty := .boolean) (atype := .boolean) (pc' := 30) (hC L14) hg hsz hA hk16 (by decide) hl17 ea19 eL20 eI21 ca19 sa19 (by decide) rfl (fw_RA21 ((hC []).2.1.2 1 _ rfl).2) fw_cell21 (by decide) (hw _ wq_1_64) (by decide) rfl (by decide) d_MD_init_28 rfl ?_
  have hk22 : (fw_k L20 k0).1 = 6 := fw_k_old eL20 hk16 (by decide)
  have ka19 : (fw_k L20 a19).1 = 21 := fw_k_new ea19 eL20
  have hl23 : l0 ≤ L20.length := fw_hl eL20 hl17
  obtain ⟨I24, eI24, h⟩ := fw_let_some h
  refine fx_putr (pc' := 33) (hC L20) hk22 (by decide) rfl iw_MD 7 (by decide) (by decide) rfl (fw_nn ba19) (fw_ne ba19) ty_MD tyok_MD nn_MD rfl eI24 (tyok_MD 7 (by decide)) rfl rfl (hw _ wq_3_123) rfl d_MD_init_30 rfl ?_
  refine fx_aload_n (pc' := 34) hF d_MD_init_33 rfl 0 rfl rfl ?_
  refine fx_bipush (pc' := 36) hF (v := (100 : Int32)) d_MD_init_34 rfl rfl ?_
  obtain ⟨a25, L26, ea25, eL26, ba25, ca25, sa25, h⟩ := fw_nw_some h
  obtain ⟨I27, eI27, h⟩ := fw_let_some h
  refine fx_newa (ty := .int) (atype := .int) (pc' := 38) (hC L20) hg hsz hA hk22 (by decide) hl23 ea25 eL26 eI27 ca25 sa25 (by decide) rfl (fw_RA20 ((hC []).2.1.2 0 _ rfl).2) fw_cell20 (by decide) (hw _ wq_1_65) (by decide) rfl (by decide) d_MD_init_36 rfl ?_
  have hk28 : (fw_k L26 k0).1 = 6 := fw_k_old eL26 hk22 (by decide)
  have ka25 : (fw_k L26 a25).1 = 20 := fw_k_new ea25 eL26
  have hl29 : l0 ≤ L26.length := fw_hl eL26 hl23
  obtain ⟨I30, eI30, h⟩ := fw_let_some h
  refine fx_putr (pc' := 41) (hC L26) hk28 (by decide) rfl iw_MD 8 (by decide) (by decide) rfl (fw_nn ba25) (fw_ne ba25) ty_MD tyok_MD nn_MD rfl eI30 (tyok_MD 8 (by decide)) rfl rfl (hw _ wq_3_124) rfl d_MD_init_38 rfl ?_
  refine fx_aload_n (pc' := 42) hF d_MD_init_41 rfl 0 rfl rfl ?_
  refine fx_iconst (pc' := 43) hF (v := (-1 : Int32)) d_MD_init_42 rfl rfl ?_
  obtain ⟨I31, eI31, h⟩ := fw_let_some h
  refine fx_puti (pc' := 46) (hC L26) hk28 (by decide) rfl iw_MD 11 (by decide) (by decide) rfl ty_MD tyok_MD nn_MD rfl eI31 (tyok_MD 11 (by decide)) rfl rfl (hw _ wq_3_127) rfl d_MD_init_43 rfl ?_
  refine fx_aload_n (pc' := 47) hF d_MD_init_46 rfl 0 rfl rfl ?_
  refine fx_sipush (pc' := 50) hF (v := (140 : Int32)) d_MD_init_47 rfl rfl ?_
  obtain ⟨a32, L33, ea32, eL33, ba32, ca32, sa32, h⟩ := fw_nw_some h
  obtain ⟨I34, eI34, h⟩ := fw_let_some h
  refine fx_newa (ty := .int) (atype := .int) (pc' := 52) (hC L26) hg hsz hA hk28 (by decide) hl29 ea32 eL33 eI34 ca32 sa32 (by decide) rfl (fw_RA20 ((hC []).2.1.2 0 _ rfl).2) fw_cell20 (by decide) (hw _ wq_1_65) (by decide) rfl (by decide) d_MD_init_50 rfl ?_
  have hk35 : (fw_k L33 k0).1 = 6 := fw_k_old eL33 hk28 (by decide)
  have ka32 : (fw_k L33 a32).1 = 20 := fw_k_new ea32 eL33
  have hl36 : l0 ≤ L33.length := fw_hl eL33 hl29
  obtain ⟨I37, eI37, h⟩ := fw_let_some h
  refine fx_putr (pc' := 55) (hC L33) hk35 (by decide) rfl iw_MD 13 (by decide) (by decide) rfl (fw_nn ba32) (fw_ne ba32) ty_MD tyok_MD nn_MD rfl eI37 (tyok_MD 13 (by decide)) rfl rfl (hw _ wq_3_129) rfl d_MD_init_52 rfl ?_
  refine fx_aload_n (pc' := 56) hF d_MD_init_55 rfl 0 rfl rfl ?_
  refine fx_iconst (pc' := 57) hF (v := (-1 : Int32)) d_MD_init_56 rfl rfl ?_
  obtain ⟨I38, eI38, h⟩ := fw_let_some h
  refine fx_puti (pc' := 60) (hC L33) hk35 (by decide) rfl iw_MD 16 (by decide) (by decide) rfl ty_MD tyok_MD nn_MD rfl eI38 (tyok_MD 16 (by decide)) rfl rfl (hw _ wq_3_132) rfl d_MD_init_57 rfl ?_
  refine fx_aload_n (pc' := 61) hF d_MD_init_60 rfl 0 rfl rfl ?_
  refine fx_bipush (pc' := 63) hF (v := (20 : Int32)) d_MD_init_61 rfl rfl ?_
  obtain ⟨a39, L40, ea39, eL40, ba39, ca39, sa39, h⟩ := fw_nw_some h
  obtain ⟨I41, eI41, h⟩ := fw_let_some h
  refine fx_newa (ty := .int) (atype := .int) (pc' := 65) (hC L33) hg hsz hA hk35 (by decide) hl36 ea39 eL40 eI41 ca39 sa39 (by decide) rfl (fw_RA20 ((hC []).2.1.2 0 _ rfl).2) fw_cell20 (by decide) (hw _ wq_1_65) (by decide) rfl (by decide) d_MD_init_63 rfl ?_
  have hk42 : (fw_k L40 k0).1 = 6 := fw_k_old eL40 hk35 (by decide)
  have ka39 : (fw_k L40 a39).1 = 20 := fw_k_new ea39 eL40
  have hl43 : l0 ≤ L40.length := fw_hl eL40 hl36
  obtain ⟨I44, eI44, h⟩ := fw_let_some h
  refine fx_putr (pc' := 68) (hC L40) hk42 (by decide) rfl iw_MD 17 (by decide) (by decide) rfl (fw_nn ba39) (fw_ne ba39) ty_MD tyok_MD nn_MD rfl eI44 (tyok_MD 17 (by decide)) rfl rfl (hw _ wq_3_133) rfl d_MD_init_65 rfl ?_
  refine fx_aload_n (pc' := 69) hF d_MD_init_68 rfl 0 rfl rfl ?_
  refine fx_bipush (pc' := 71) hF (v := (100 : Int32)) d_MD_init_69 rfl rfl ?_
  obtain ⟨a45, L46, ea45, eL46, ba45, ca45, sa45, h⟩ := fw_nw_some h
  obtain ⟨I47, eI47, h⟩ := fw_let_some h
  refine fx_newa (ty := .boolean) (atype := .boolean) (pc' := 73) (hC L40) hg hsz hA hk42 (by decide) hl43 ea45 eL46 eI47 ca45 sa45 (by decide) rfl (fw_RA21 ((hC []).2.1.2 1 _ rfl).2) fw_cell21 (by decide) (hw _ wq_1_64) (by decide) rfl (by decide) d_MD_init_71 rfl ?_
  have hk48 : (fw_k L46 k0).1 = 6 := fw_k_old eL46 hk42 (by decide)
  have ka45 : (fw_k L46 a45).1 = 21 := fw_k_new ea45 eL46
  have hl49 : l0 ≤ L46.length := fw_hl eL46 hl43
  obtain ⟨I50, eI50, h⟩ := fw_let_some h
  refine fx_putr (pc' := 76) (hC L46) hk48 (by decide) rfl iw_MD 18 (by decide) (by decide) rfl (fw_nn ba45) (fw_ne ba45) ty_MD tyok_MD nn_MD rfl eI50 (tyok_MD 18 (by decide)) rfl rfl (hw _ wq_3_134) rfl d_MD_init_73 rfl ?_
  refine fx_aload_n (pc' := 77) hF d_MD_init_76 rfl 0 rfl rfl ?_
  refine fx_iconst (pc' := 78) hF (v := (3 : Int32)) d_MD_init_77 rfl rfl ?_
  obtain ⟨a51, L52, ea51, eL52, ba51, ca51, sa51, h⟩ := fw_nw_some h
  obtain ⟨I53, eI53, h⟩ := fw_let_some h
  refine fx_newa (ty := .int) (atype := .int) (pc' := 80) (hC L46) hg hsz hA hk48 (by decide) hl49 ea51 eL52 eI53 ca51 sa51 (by decide) rfl (fw_RA20 ((hC []).2.1.2 0 _ rfl).2) fw_cell20 (by decide) (hw _ wq_1_65) (by decide) rfl (by decide) d_MD_init_78 rfl ?_
  have hk54 : (fw_k L52 k0).1 = 6 := fw_k_old eL52 hk48 (by decide)
  have ka51 : (fw_k L52 a51).1 = 20 := fw_k_new ea51 eL52
  have hl55 : l0 ≤ L52.length := fw_hl eL52 hl49
  obtain ⟨I56, eI56, h⟩ := fw_let_some h
  refine fx_putr (pc' := 83) (hC L52) hk54 (by decide) rfl iw_MD 19 (by decide) (by decide) rfl (fw_nn ba51) (fw_ne ba51) ty_MD tyok_MD nn_MD rfl eI56 (tyok_MD 19 (by decide)) rfl rfl (hw _ wq_3_135) rfl d_MD_init_80 rfl ?_
  refine fx_aload_n (pc' := 84) hF d_MD_init_83 rfl 0 rfl rfl ?_
  refine fx_iconst (pc' := 85) hF (v := (3 : Int32)) d_MD_init_84 rfl rfl ?_
  obtain ⟨a57, L58, ea57, eL58, ba57, ca57, sa57, h⟩ := fw_nw_some h
  obtain ⟨I59, eI59, h⟩ := fw_let_some h
  refine fx_newa (ty := .int) (atype := .int) (pc' := 87) (hC L52) hg hsz hA hk54 (by decide) hl55 ea57 eL58 eI59 ca57 sa57 (by decide) rfl (fw_RA20 ((hC []).2.1.2 0 _ rfl).2) fw_cell20 (by decide) (hw _ wq_1_65) (by decide) rfl (by decide) d_MD_init_85 rfl ?_
  have hk60 : (fw_k L58 k0).1 = 6 := fw_k_old eL58 hk54 (by decide)
  have ka57 : (fw_k L58 a57).1 = 20 := fw_k_new ea57 eL58
  have hl61 : l0 ≤ L58.length := fw_hl eL58 hl55
  obtain ⟨I62, eI62, h⟩ := fw_let_some h
  refine fx_putr (pc' := 90) (hC L58) hk60 (by decide) rfl iw_MD 20 (by decide) (by decide) rfl (fw_nn ba57) (fw_ne ba57) ty_MD tyok_MD nn_MD rfl eI62 (tyok_MD 20 (by decide)) rfl rfl (hw _ wq_3_136) rfl d_MD_init_87 rfl ?_
  refine fx_aload_n (pc' := 91) hF d_MD_init_90 rfl 0 rfl rfl ?_
  refine fx_iconst (pc' := 92) hF (v := (3 : Int32)) d_MD_init_91 rfl rfl ?_
  obtain ⟨a63, L64, ea63, eL64, ba63, ca63, sa63, h⟩ := fw_nw_some h
  obtain ⟨I65, eI65, h⟩ := fw_let_some h
  refine fx_newa (ty := .int) (atype := .int) (pc' := 94) (hC L58) hg hsz hA hk60 (by decide) hl61 ea63 eL64 eI65 ca63 sa63 (by decide) rfl (fw_RA20 ((hC []).2.1.2 0 _ rfl).2) fw_cell20 (by decide) (hw _ wq_1_65) (by decide) rfl (by decide) d_MD_init_92 rfl ?_
  have hk66 : (fw_k L64 k0).1 = 6 := fw_k_old eL64 hk60 (by decide)
  have ka63 : (fw_k L64 a63).1 = 20 := fw_k_new ea63 eL64
  have hl67 : l0 ≤ L64.length := fw_hl eL64 hl61
  obtain ⟨I68, eI68, h⟩ := fw_let_some h
  refine fx_putr (pc' := 97) (hC L64) hk66 (by decide) rfl iw_MD 21 (by decide) (by decide) rfl (fw_nn ba63) (fw_ne ba63) ty_MD tyok_MD nn_MD rfl eI68 (tyok_MD 21 (by decide)) rfl rfl (hw _ wq_3_137) rfl d_MD_init_94 rfl ?_
  refine fx_aload_n (pc' := 98) hF d_MD_init_97 rfl 0 rfl rfl ?_
  refine fx_iconst (pc' := 99) hF (v := (3 : Int32)) d_MD_init_98 rfl rfl ?_
  obtain ⟨a69, L70, ea69, eL70, ba69, ca69, sa69, h⟩ := fw_nw_some h
  obtain ⟨I71, eI71, h⟩ := fw_let_some h
  refine fx_newa (ty := .int) (atype := .int) (pc' := 101) (hC L64) hg hsz hA hk66 (by decide) hl67 ea69 eL70 eI71 ca69 sa69 (by decide) rfl (fw_RA20 ((hC []).2.1.2 0 _ rfl).2) fw_cell20 (by decide) (hw _ wq_1_65) (by decide) rfl (by decide) d_MD_init_99 rfl ?_
  have hk72 : (fw_k L70 k0).1 = 6 := fw_k_old eL70 hk66 (by decide)
  have ka69 : (fw_k L70 a69).1 = 20 := fw_k_new ea69 eL70
  have hl73 : l0 ≤ L70.length := fw_hl eL70 hl67
  obtain ⟨I74, eI74, h⟩ := fw_let_some h
  refine fx_putr (pc' := 104) (hC L70) hk72 (by decide) rfl iw_MD 22 (by decide) (by decide) rfl (fw_nn ba69) (fw_ne ba69) ty_MD tyok_MD nn_MD rfl eI74 (tyok_MD 22 (by decide)) rfl rfl (hw _ wq_3_138) rfl d_MD_init_101 rfl ?_
  refine fx_aload_n (pc' := 105) hF d_MD_init_104 rfl 0 rfl rfl ?_
  refine fx_iconst (pc' := 106) hF (v := (3 : Int32)) d_MD_init_105 rfl rfl ?_
  obtain ⟨a75, L76, ea75, eL76, ba75, ca75, sa75, h⟩ := fw_nw_some h
  obtain ⟨I77, eI77, h⟩ := fw_let_some h
  refine fx_newa (ty := .int) (atype := .int) (pc' := 108) (hC L70) hg hsz hA hk72 (by decide) hl73 ea75 eL76 eI77 ca75 sa75 (by decide) rfl (fw_RA20 ((hC []).2.1.2 0 _ rfl).2) fw_cell20 (by decide) (hw _ wq_1_65) (by decide) rfl (by decide) d_MD_init_106 rfl ?_
  have hk78 : (fw_k L76 k0).1 = 6 := fw_k_old eL76 hk72 (by decide)
  have ka75 : (fw_k L76 a75).1 = 20 := fw_k_new ea75 eL76
  have hl79 : l0 ≤ L76.length := fw_hl eL76 hl73
  obtain ⟨I80, eI80, h⟩ := fw_let_some h
  refine fx_putr (pc' := 111) (hC L76) hk78 (by decide) rfl iw_MD 23 (by decide) (by decide) rfl (fw_nn ba75) (fw_ne ba75) ty_MD tyok_MD nn_MD rfl eI80 (tyok_MD 23 (by decide)) rfl rfl (hw _ wq_3_139) rfl d_MD_init_108 rfl ?_
  refine fx_aload_n (pc' := 112) hF d_MD_init_111 rfl 0 rfl rfl ?_
  refine fx_bipush (pc' := 114) hF (v := (15 : Int32)) d_MD_init_112 rfl rfl ?_
  obtain ⟨a81, L82, ea81, eL82, ba81, ca81, sa81, h⟩ := fw_nw_some h
  obtain ⟨I83, eI83, h⟩ := fw_let_some h
  refine fx_newa (ty := .boolean) (atype := .boolean) (pc' := 116) (hC L76) hg hsz hA hk78 (by decide) hl79 ea81 eL82 eI83 ca81 sa81 (by decide) rfl (fw_RA21 ((hC []).2.1.2 1 _ rfl).2) fw_cell21 (by decide) (hw _ wq_1_64) (by decide) rfl (by decide) d_MD_init_114 rfl ?_
  have hk84 : (fw_k L82 k0).1 = 6 := fw_k_old eL82 hk78 (by decide)
  have ka81 : (fw_k L82 a81).1 = 21 := fw_k_new ea81 eL82
  have hl85 : l0 ≤ L82.length := fw_hl eL82 hl79
  obtain ⟨I86, eI86, h⟩ := fw_let_some h
  refine fx_putr (pc' := 119) (hC L82) hk84 (by decide) rfl iw_MD 24 (by decide) (by decide) rfl (fw_nn ba81) (fw_ne ba81) ty_MD tyok_MD nn_MD rfl eI86 (tyok_MD 24 (by decide)) rfl rfl (hw _ wq_3_140) rfl d_MD_init_116 rfl ?_
  refine fx_aload_n (pc' := 120) hF d_MD_init_119 rfl 0 rfl rfl ?_
  refine fx_iload_n (pc' := 121) hF d_MD_init_120 rfl 1 rfl rfl ?_
  refine fx_iconst (pc' := 122) hF (v := (3 : Int32)) d_MD_init_121 rfl rfl ?_
  refine fx_icmp_ge hF (tgt := 129) (pc' := 125) d_MD_init_122 rfl rfl (fun q87 => ?_) (fun q87 => ?_)
  · rw [if_pos q87] at h
    refine fx_iload_n (pc' := 130) hF d_MD_init_129 rfl 1 rfl rfl ?_
    refine fx_iconst (pc' := 131) hF (v := (5 : Int32)) d_MD_init_130 rfl rfl ?_
    refine fx_icmp_le hF (tgt := 138) (pc' := 134) d_MD_init_131 rfl rfl (fun q88 => ?_) (fun q88 => ?_)
    · rw [if_pos q88] at h
      refine fx_iload_n (pc' := 139) hF d_MD_init_138 rfl 1 rfl rfl ?_
      refine fx_lv [0, 2, 3] rfl ?_
      exact B139 L82 I86 x2 x3 x1 hk84 hl85 h
    · rw [if_neg q88] at h
      refine fx_iconst (pc' := 135) hF (v := (5 : Int32)) d_MD_init_134 rfl rfl ?_
      refine fx_goto hF (tgt := 139) d_MD_init_135 rfl ?_
      refine fx_lv [0, 2, 3] rfl ?_
      exact B139 L82 I86 x2 x3 (5 : Int32) hk84 hl85 h
  · rw [if_neg q87] at h
    refine fx_iconst (pc' := 126) hF (v := (3 : Int32)) d_MD_init_125 rfl rfl ?_
    refine fx_goto hF (tgt := 139) d_MD_init_126 rfl ?_
    refine fx_lv [0, 2, 3] rfl ?_
    exact B139 L82 I86 x2 x3 (3 : Int32) hk84 hl85 h
