set_option maxHeartbeats 16000000 in
set_option maxRecDepth 100000 in
theorem lw_loop {p : Program} {l : Launch} {e : Env} {s : State} {m : MethodId} {below : List Frame} {meth : Method} {c : Code} {b L q nX nM : Nat} {xs : Nat → Int32} {Ts : List Cond} {D : va_G} {aC : Nat → ClassId} {A : Nat → Prop} {gX gM : Nat → Nat} {KX KM : Nat → Nat × Nat} {Rel : (Nat → Nat → Int32) → (Nat → Nat → Int32) → Prop} (hst : l.stackTraces = false) (hL : L ≤ 1539) (hops : lw_ops KX KM Rel)
    (hCX : fw_C p m c code 7 s #[Value.ref b] Ts R_LW D aC nX KX) (hnX : ∀ k, (KX k).1 < 99 → k < nX) (hnM : ∀ k, (KM k).1 < 99 → k < nM) (hTs : ∀ x ∈ fw_ws, x ∈ Ts) (hG : ∀ {L : List Cond}, (∀ w ∈ L, w ∈ fw_ws) → GoodIn Ts L) (hN : fw_N s) (hT : th_T s) (hn1 : tn_T s) (hr : meth.sig.returnType = ret) (hlocks : meth.locks = false) (hAs : A = fun x => s.heap.size ≤ x) (hX : va_X b L xs s s.heap) (hbl : b < s.heap.size)
    (hkX : (KX 0).1 = 5) (hkM : (KM 0).1 = 6) (hXM : ∀ i, i < nX → ∀ j, j < nM → gX i ≠ gM j) (hqX : ∀ k, k < nX → gX k ≠ q) (hqM : ∀ k, k < nM → gM k ≠ q) (hAq : A q) :
    ∀ (f a : Nat) (I J : (Nat → Nat → Int32)) (z : Int64) (cells slots : Nat), Rel I J → L ≤ a + 3 * f → a ≤ 1542 → cells + (1542 - a) ≤ 601024 → slots + 6 * (1542 - a) ≤ 7293000 → fw_H p l e room_1 s m #[Value.ref b] below meth c cells slots (lw_Z below #[Value.ref b] s) 7 A (fun H => fw_Wd D aC A gX nX KX I H ∧ (fw_Wd D aC A gM nM KM J H ∧ lw_o aC q z H)) 53 [(0, .ref b), (1, .ref (gX 0)), (2, .ref (gM 0)), (3, .ref q), (4, .int (nI a))] [] := by
  have hF := hCX.1
  have hCM : fw_C p m c code 7 s #[Value.ref b] Ts R_LW D aC nM KM := ⟨hCX.1, hCX.2.1, hnM⟩
  have hw : ∀ w ∈ fw_ws, w.before #[Value.ref b] s = true := fun w h => hF.2.2.2.2 w (hTs w h)
  have hA : ∀ x, s.heap.size ≤ x → A x := fun x h => by rw [hAs]; exact h
  have hbA : ¬ A b := by rw [hAs]; exact Nat.not_le.mpr hbl
  have hMX : ∀ i, i < nM → ∀ j, j < nX → gM i ≠ gX j := fun i hi j hj h => hXM j hj i hi h.symm
  intro f
  induction f with
  | zero =>
    intro a I J z cells slots hR h1 h2 h3 h4
    refine fx_iload (pc' := 55) hF d_LW_law_53 4 rfl rfl ?_
    refine fx_aload_n (pc' := 56) hF d_LW_law_55 rfl 0 rfl rfl ?_
    refine fx_slen (pc' := 57) hF hX hbl hbA d_LW_law_56 rfl ?_
    refine fx_iconst (pc' := 58) hF (v := (3 : Int32)) d_LW_law_57 rfl rfl ?_
    refine fx_isub (pc' := 59) hF d_LW_law_58 rfl ?_
    refine fx_icmp_gt hF (tgt := 743) (pc' := 62) d_LW_law_59 rfl rfl (fun _ => lw_end hF.1 hF.2.1 hr hlocks hAs (by omega) (by omega)) (fun z9 => absurd ((lw_cmp hL (by omega)).mpr (by omega)) z9)
  | succ f ih =>
    intro a I J z cells slots hR h1 h2 h3 h4
    refine fx_iload (pc' := 55) hF d_LW_law_53 4 rfl rfl ?_
    refine fx_aload_n (pc' := 56) hF d_LW_law_55 rfl 0 rfl rfl ?_
    refine fx_slen (pc' := 57) hF hX hbl hbA d_LW_law_56 rfl ?_
    refine fx_iconst (pc' := 58) hF (v := (3 : Int32)) d_LW_law_57 rfl rfl ?_
    refine fx_isub (pc' := 59) hF d_LW_law_58 rfl ?_
    refine fx_icmp_gt hF (tgt := 743) (pc' := 62) d_LW_law_59 rfl rfl (fun _ => lw_end hF.1 hF.2.1 hr hlocks hAs (by omega) (by omega)) (fun hlt => ?_)
    have ha : a + 3 ≤ L := Nat.not_lt.mp (fun h => hlt ((lw_cmp hL (by omega)).mpr h))
    have hin0 : vp_in (nI a) L := vp_in_nI (by omega) (by omega)
    have hin1 : vp_in (nI a + 1) L := by rw [nI_1]; exact vp_in_nI (by omega) (by omega)
    have hin2 : vp_in (nI a + 2) L := by rw [show nI a + 2 = nI (a + 2) from nI_add a 2]; exact vp_in_nI (by omega) (by omega)
    have hcs : cells ≤ room_1.cells ∧ slots ≤ room_1.slots := ⟨by show cells ≤ 601024; omega, by show slots ≤ 7293000; omega⟩
    have hcs1 : cells + 1 ≤ room_1.cells ∧ slots + 6 ≤ room_1.slots := ⟨by show cells + 1 ≤ 601024; omega, by show slots + 6 ≤ 7293000; omega⟩
    have hcs2 : cells + 1 ≤ room_1.cells ∧ slots + 6 ≤ room_1.slots := hcs1
    have case0 : xs (nI a).toNatClampNeg &&& 31 = (0 : Int32) → fw_H p l e room_1 s m #[Value.ref b] below meth c cells slots (lw_Z below #[Value.ref b] s) 7 A (fun H => fw_Wd D aC A gX nX KX I H ∧ (fw_Wd D aC A gM nM KM J H ∧ lw_o aC q z H)) 160 [(0, .ref b), (1, .ref (gX 0)), (2, .ref (gM 0)), (3, .ref q), (4, .int (nI a))] [] := by
      intro _
      obtain ⟨t, w, I1, v, J1, hf, ht, hg, hh1, hwv, hR1⟩ := hops.2.2.2.2.2.2.2.2.2.2.2.2.2.2.2.2.2.1 (xs (nI a + 1).toNatClampNeg) I J hR
      dsimp only at hf hg hh1
      have htg : ∀ t' v', fn_FL_add KX I 0 (xs (nI a + 1).toNatClampNeg) = some (t', v') → t' ≤ 2 := fun t' v' h9 => by
        rw [hf] at h9
        cases h9
        exact ht
      rcases Nat.eq_zero_or_pos t with rfl | hp0
      · have hw9 := hwv rfl
        subst hw9
        have hl9 : fn_LW_add KX I 0 (xs (nI a + 1).toNatClampNeg) z = some (0, I1, w.toInt64) := by
          unfold fn_LW_add
          rw [hf]
        refine fx_aload_n (pc' := 161) hF d_LW_law_160 rfl 1 rfl rfl ?_
        refine fx_aload_n (pc' := 162) hF d_LW_law_161 rfl 0 rfl rfl ?_
        refine fx_iload (pc' := 164) hF d_LW_law_162 4 rfl rfl ?_
        refine fx_iconst (pc' := 165) hF (v := (1 : Int32)) d_LW_law_164 rfl rfl ?_
        refine fx_iadd (pc' := 166) hF d_LW_law_165 rfl ?_
        refine fx_sld (pc' := 167) hF hX hbl hbA hin1 d_LW_law_166 rfl ?_
        refine fx_aload_n (pc' := 168) hF d_LW_law_167 rfl 3 rfl rfl ?_
        refine fx_callSx (pc' := 171) (hh := hh_add) (bytes := b_LW_add) (maxL := 4) (ret := some .int) (na := 3) (As := [.ref (gX 0), .int (xs (nI a + 1).toNatClampNeg), .ref q]) (st := []) hCX hN hT hn1 hAs (lw_stays_x hXM hqM) hAq (ct_LW_add l hst D aC gX nX KX I 0 (xs (nI a + 1).toNatClampNeg) q z (0, I1, w.toInt64) hnX hkX hqX htg hl9) rfl rfl (Nat.le_of_ble_eq_true rfl) (Nat.le_of_ble_eq_true rfl) (lw_gw hTs wl_2_221) List.mem_cons_self (hw _ wl_1_0) (hw _ wl_2_220) (hw _ wl_2_219) ⟨by decide +kernel, by decide +kernel⟩ (by decide +kernel) hcs1 rfl rfl (Nat.le_of_ble_eq_true rfl) d_LW_law_168 rfl ?_
        have hcs := hcs2
        refine fx_istore (pc' := 173) hF (lv' := [(5, .int 0), (0, .ref b), (1, .ref (gX 0)), (2, .ref (gM 0)), (3, .ref q), (4, .int (nI a))]) d_LW_law_171 (by decide) rfl rfl ?_
        refine fx_aload_n (pc' := 174) hF d_LW_law_173 rfl 3 rfl rfl ?_
        refine fx_aload_n (pc' := 175) hF d_LW_law_174 rfl 1 rfl rfl ?_
        refine fx_iload (pc' := 177) hF d_LW_law_175 5 rfl rfl ?_
        refine fx_iconst (pc' := 178) hF (v := (1 : Int32)) d_LW_law_177 rfl rfl ?_
        refine fx_iadd (pc' := 179) hF d_LW_law_178 rfl ?_
        refine fx_sld (pc' := 180) hF hX hbl hbA hin1 d_LW_law_179 rfl ?_
        refine fx_wd (Wd' := fun H => fw_Wd D aC A gM nM KM J H ∧ (fw_Wd D aC A gX nX KX I1 H ∧ lw_o aC q w.toInt64 H)) (fun H h => ⟨h.2.1, h.1, h.2.2⟩) ?_
        refine fx_callVf (pc' := 183) (As := [.int (xs (nI a + 1).toNatClampNeg)]) (st := []) hCM hN hA (fw_stays_and (fw_Wd_stays hMX) (lw_o_stays hqM)) hkM (by decide) rfl (ct_MD_add l D aC gM nM KM J 0 (xs (nI a + 1).toNatClampNeg) (w, J1) hnM hkM hg) (cwV 1 hF.2.2.2.2 (lw_gV hG wl_4_28 wl_4_29 wl_4_30 wq_1_8 wl_4_31) rfl rfl rfl ⟨rfl, by decide +kernel, by decide +kernel, by decide +kernel⟩ ⟨Nat.le_of_ble_eq_true rfl, Nat.le_of_ble_eq_true rfl⟩) hcs rfl rfl (Nat.le_of_ble_eq_true rfl) d_LW_law_180 rfl ?_
        refine fx_wd (Wd' := fun H => fw_Wd D aC A gX nX KX I1 H ∧ (fw_Wd D aC A gM nM KM J1 H ∧ lw_o aC q w.toInt64 H)) (fun H h => ⟨h.2.1, h.1, h.2.2⟩) ?_
        refine fx_istore (pc' := 185) hF (lv' := [(6, .int w), (5, .int 0), (0, .ref b), (1, .ref (gX 0)), (2, .ref (gM 0)), (3, .ref q), (4, .int (nI a))]) d_LW_law_183 (by decide) rfl rfl ?_
        refine fx_aload_n (pc' := 186) hF d_LW_law_185 rfl 4 rfl rfl ?_
        refine fx_wd (Wd' := fun H => fw_Wd D aC A gM nM KM J1 H ∧ (fw_Wd D aC A gX nX KX I1 H ∧ lw_o aC q w.toInt64 H)) (fun H h => ⟨h.2.1, h.1, h.2.2⟩) ?_
        refine fx_callVf (pc' := 189) (As := []) (st := []) hCM hN hA (fw_stays_and (fw_Wd_stays hMX) (lw_o_stays hqM)) hkM (by decide) rfl (ct_MD_thrown l D aC gM nM KM J1 0 (Int32.ofNat 0, J1) hnM hkM hh1) (cwV 0 hF.2.2.2.2 (lw_gV hG wl_3_192 wl_3_193 wl_3_194 wq_1_8 wl_3_195) rfl rfl rfl ⟨rfl, by decide +kernel, by decide +kernel, by decide +kernel⟩ ⟨Nat.le_of_ble_eq_true rfl, Nat.le_of_ble_eq_true rfl⟩) hcs rfl rfl (Nat.le_of_ble_eq_true rfl) d_LW_law_186 rfl ?_
        refine fx_wd (Wd' := fun H => fw_Wd D aC A gX nX KX I1 H ∧ (fw_Wd D aC A gM nM KM J1 H ∧ lw_o aC q w.toInt64 H)) (fun H h => ⟨h.2.1, h.1, h.2.2⟩) ?_
        refine fx_iload (pc' := 191) hF d_LW_law_189 1 rfl rfl ?_
        refine fx_icmp_eq hF (tgt := 196) (pc' := 194) d_LW_law_191 rfl rfl (fun _ => ?_) (fun z9 => absurd rfl z9)
        refine fx_iload (pc' := 198) hF d_LW_law_196 1 rfl rfl ?_
        refine fx_if_ne hF (tgt := 213) (pc' := 201) d_LW_law_198 rfl rfl (fun z9 => absurd rfl z9) (fun _ => ?_)
        refine fx_aload_n (pc' := 202) hF d_LW_law_201 rfl 5 rfl rfl ?_
        refine fx_iconst (pc' := 203) hF (v := (0 : Int32)) d_LW_law_202 rfl rfl ?_
        refine fx_laldO (pc' := 204) hCX (fun H h => h.2.2) d_LW_law_203 rfl ?_
        refine fx_iload (pc' := 206) hF d_LW_law_204 0 rfl rfl ?_
        refine fx_i2l (pc' := 207) hF d_LW_law_206 rfl ?_
        refine fx_lcmp (pc' := 208) hF d_LW_law_207 rfl ?_
        refine fx_if_eq hF (tgt := 213) (pc' := 211) d_LW_law_208 rfl rfl (fun _ => ?_) (fun z9 => absurd rfl z9)
        refine fx_goto hF (tgt := 737) d_LW_law_213 rfl ?_
        refine fx_iinc (pc' := 740) hF (v := nI (a + 3)) (lv' := [(4, .int (nI (a + 3))), (6, .int w), (5, .int 0), (0, .ref b), (1, .ref (gX 0)), (2, .ref (gM 0)), (3, .ref q)]) d_LW_law_737 6 rfl (nI_add a 3) (by decide) rfl rfl ?_
        refine fx_goto hF (tgt := 53) d_LW_law_740 rfl ?_
        refine fx_lv [3, 4, 5, 6, 0] rfl ?_
        exact ih (a + 3) I1 J1 w.toInt64 (cells + 1) (slots + 6) hR1 (by omega) (by omega) (by omega) (by omega)
      · have hl9 : fn_LW_add KX I 0 (xs (nI a + 1).toNatClampNeg) z = some (Int32.ofNat t, I1, z) := by
          obtain ⟨t9, rfl⟩ : ∃ t9, t = t9 + 1 := ⟨t - 1, by omega⟩
          unfold fn_LW_add
          rw [hf]
        refine fx_aload_n (pc' := 161) hF d_LW_law_160 rfl 1 rfl rfl ?_
        refine fx_aload_n (pc' := 162) hF d_LW_law_161 rfl 0 rfl rfl ?_
        refine fx_iload (pc' := 164) hF d_LW_law_162 4 rfl rfl ?_
        refine fx_iconst (pc' := 165) hF (v := (1 : Int32)) d_LW_law_164 rfl rfl ?_
        refine fx_iadd (pc' := 166) hF d_LW_law_165 rfl ?_
        refine fx_sld (pc' := 167) hF hX hbl hbA hin1 d_LW_law_166 rfl ?_
        refine fx_aload_n (pc' := 168) hF d_LW_law_167 rfl 3 rfl rfl ?_
        refine fx_callSx (pc' := 171) (hh := hh_add) (bytes := b_LW_add) (maxL := 4) (ret := some .int) (na := 3) (As := [.ref (gX 0), .int (xs (nI a + 1).toNatClampNeg), .ref q]) (st := []) hCX hN hT hn1 hAs (lw_stays_x hXM hqM) hAq (ct_LW_add l hst D aC gX nX KX I 0 (xs (nI a + 1).toNatClampNeg) q z ((Int32.ofNat t), I1, z) hnX hkX hqX htg hl9) rfl rfl (Nat.le_of_ble_eq_true rfl) (Nat.le_of_ble_eq_true rfl) (lw_gw hTs wl_2_221) List.mem_cons_self (hw _ wl_1_0) (hw _ wl_2_220) (hw _ wl_2_219) ⟨by decide +kernel, by decide +kernel⟩ (by decide +kernel) hcs1 rfl rfl (Nat.le_of_ble_eq_true rfl) d_LW_law_168 rfl ?_
        have hcs := hcs2
        refine fx_istore (pc' := 173) hF (lv' := [(5, .int (Int32.ofNat t)), (0, .ref b), (1, .ref (gX 0)), (2, .ref (gM 0)), (3, .ref q), (4, .int (nI a))]) d_LW_law_171 (by decide) rfl rfl ?_
        refine fx_aload_n (pc' := 174) hF d_LW_law_173 rfl 3 rfl rfl ?_
        refine fx_aload_n (pc' := 175) hF d_LW_law_174 rfl 1 rfl rfl ?_
        refine fx_iload (pc' := 177) hF d_LW_law_175 5 rfl rfl ?_
        refine fx_iconst (pc' := 178) hF (v := (1 : Int32)) d_LW_law_177 rfl rfl ?_
        refine fx_iadd (pc' := 179) hF d_LW_law_178 rfl ?_
        refine fx_sld (pc' := 180) hF hX hbl hbA hin1 d_LW_law_179 rfl ?_
        refine fx_wd (Wd' := fun H => fw_Wd D aC A gM nM KM J H ∧ (fw_Wd D aC A gX nX KX I1 H ∧ lw_o aC q z H)) (fun H h => ⟨h.2.1, h.1, h.2.2⟩) ?_
        refine fx_callVf (pc' := 183) (As := [.int (xs (nI a + 1).toNatClampNeg)]) (st := []) hCM hN hA (fw_stays_and (fw_Wd_stays hMX) (lw_o_stays hqM)) hkM (by decide) rfl (ct_MD_add l D aC gM nM KM J 0 (xs (nI a + 1).toNatClampNeg) (v, J1) hnM hkM hg) (cwV 1 hF.2.2.2.2 (lw_gV hG wl_4_28 wl_4_29 wl_4_30 wq_1_8 wl_4_31) rfl rfl rfl ⟨rfl, by decide +kernel, by decide +kernel, by decide +kernel⟩ ⟨Nat.le_of_ble_eq_true rfl, Nat.le_of_ble_eq_true rfl⟩) hcs rfl rfl (Nat.le_of_ble_eq_true rfl) d_LW_law_180 rfl ?_
        refine fx_wd (Wd' := fun H => fw_Wd D aC A gX nX KX I1 H ∧ (fw_Wd D aC A gM nM KM J1 H ∧ lw_o aC q z H)) (fun H h => ⟨h.2.1, h.1, h.2.2⟩) ?_
        refine fx_istore (pc' := 185) hF (lv' := [(6, .int v), (5, .int (Int32.ofNat t)), (0, .ref b), (1, .ref (gX 0)), (2, .ref (gM 0)), (3, .ref q), (4, .int (nI a))]) d_LW_law_183 (by decide) rfl rfl ?_
        refine fx_aload_n (pc' := 186) hF d_LW_law_185 rfl 4 rfl rfl ?_
        refine fx_wd (Wd' := fun H => fw_Wd D aC A gM nM KM J1 H ∧ (fw_Wd D aC A gX nX KX I1 H ∧ lw_o aC q z H)) (fun H h => ⟨h.2.1, h.1, h.2.2⟩) ?_
        refine fx_callVf (pc' := 189) (As := []) (st := []) hCM hN hA (fw_stays_and (fw_Wd_stays hMX) (lw_o_stays hqM)) hkM (by decide) rfl (ct_MD_thrown l D aC gM nM KM J1 0 (Int32.ofNat t, J1) hnM hkM hh1) (cwV 0 hF.2.2.2.2 (lw_gV hG wl_3_192 wl_3_193 wl_3_194 wq_1_8 wl_3_195) rfl rfl rfl ⟨rfl, by decide +kernel, by decide +kernel, by decide +kernel⟩ ⟨Nat.le_of_ble_eq_true rfl, Nat.le_of_ble_eq_true rfl⟩) hcs rfl rfl (Nat.le_of_ble_eq_true rfl) d_LW_law_186 rfl ?_
        refine fx_wd (Wd' := fun H => fw_Wd D aC A gX nX KX I1 H ∧ (fw_Wd D aC A gM nM KM J1 H ∧ lw_o aC q z H)) (fun H h => ⟨h.2.1, h.1, h.2.2⟩) ?_
        refine fx_iload (pc' := 191) hF d_LW_law_189 1 rfl rfl ?_
        refine fx_icmp_eq hF (tgt := 196) (pc' := 194) d_LW_law_191 rfl rfl (fun _ => ?_) (fun z9 => absurd rfl z9)
        refine fx_iload (pc' := 198) hF d_LW_law_196 1 rfl rfl ?_
        refine fx_if_ne hF (tgt := 213) (pc' := 201) d_LW_law_198 rfl rfl (fun _ => ?_) (fun z9 => absurd z9 (lw_ne hp0 (by omega)))
        refine fx_goto hF (tgt := 737) d_LW_law_213 rfl ?_
        refine fx_iinc (pc' := 740) hF (v := nI (a + 3)) (lv' := [(4, .int (nI (a + 3))), (6, .int v), (5, .int (Int32.ofNat t)), (0, .ref b), (1, .ref (gX 0)), (2, .ref (gM 0)), (3, .ref q)]) d_LW_law_737 6 rfl (nI_add a 3) (by decide) rfl rfl ?_
        refine fx_goto hF (tgt := 53) d_LW_law_740 rfl ?_
        refine fx_lv [3, 4, 5, 6, 0] rfl ?_
        exact ih (a + 3) I1 J1 z (cells + 1) (slots + 6) hR1 (by omega) (by omega) (by omega) (by omega)
    have case1 : xs (nI a).toNatClampNeg &&& 31 = (1 : Int32) → fw_H p l e room_1 s m #[Value.ref b] below meth c cells slots (lw_Z below #[Value.ref b] s) 7 A (fun H => fw_Wd D aC A gX nX KX I H ∧ (fw_Wd D aC A gM nM KM J H ∧ lw_o aC q z H)) 216 [(0, .ref b), (1, .ref (gX 0)), (2, .ref (gM 0)), (3, .ref q), (4, .int (nI a))] [] := by
      intro _
      obtain ⟨r, I1, J1, hf, hg, hR1⟩ := hops.1 (xs (nI a + 1).toNatClampNeg) I J hR
      refine fx_aload_n (pc' := 217) hF d_LW_law_216 rfl 1 rfl rfl ?_
      refine fx_aload_n (pc' := 218) hF d_LW_law_217 rfl 0 rfl rfl ?_
      refine fx_iload (pc' := 220) hF d_LW_law_218 4 rfl rfl ?_
      refine fx_iconst (pc' := 221) hF (v := (1 : Int32)) d_LW_law_220 rfl rfl ?_
      refine fx_iadd (pc' := 222) hF d_LW_law_221 rfl ?_
      refine fx_sld (pc' := 223) hF hX hbl hbA hin1 d_LW_law_222 rfl ?_
      refine fx_callVf (pc' := 226) (As := [.int (xs (nI a + 1).toNatClampNeg)]) (st := []) hCX hN hA (fw_stays_and (fw_Wd_stays hXM) (lw_o_stays hqX)) hkX (by decide) rfl (ct_FL_resend l D aC gX nX KX I 0 (xs (nI a + 1).toNatClampNeg) (r, I1) hnX hkX hf) (cwV 1 hF.2.2.2.2 (lw_gV hG wl_1_224 wl_1_225 wl_1_226 wq_1_1 wl_1_227) rfl rfl rfl ⟨rfl, by decide +kernel, by decide +kernel, by decide +kernel⟩ ⟨Nat.le_of_ble_eq_true rfl, Nat.le_of_ble_eq_true rfl⟩) hcs rfl rfl (Nat.le_of_ble_eq_true rfl) d_LW_law_223 rfl ?_
      refine fx_aload_n (pc' := 227) hF d_LW_law_226 rfl 2 rfl rfl ?_
      refine fx_aload_n (pc' := 228) hF d_LW_law_227 rfl 0 rfl rfl ?_
      refine fx_iload (pc' := 230) hF d_LW_law_228 4 rfl rfl ?_
      refine fx_iconst (pc' := 231) hF (v := (1 : Int32)) d_LW_law_230 rfl rfl ?_
      refine fx_iadd (pc' := 232) hF d_LW_law_231 rfl ?_
      refine fx_sld (pc' := 233) hF hX hbl hbA hin1 d_LW_law_232 rfl ?_
      refine fx_wd (Wd' := fun H => fw_Wd D aC A gM nM KM J H ∧ (fw_Wd D aC A gX nX KX I1 H ∧ lw_o aC q z H)) (fun H h => ⟨h.2.1, h.1, h.2.2⟩) ?_
      refine fx_callVf (pc' := 236) (As := [.int (xs (nI a + 1).toNatClampNeg)]) (st := [.int r]) hCM hN hA (fw_stays_and (fw_Wd_stays hMX) (lw_o_stays hqM)) hkM (by decide) rfl (ct_MD_resend l D aC gM nM KM J 0 (xs (nI a + 1).toNatClampNeg) (r, J1) hnM hkM hg) (cwV 1 hF.2.2.2.2 (lw_gV hG wl_4_36 wl_4_37 wl_4_38 wq_1_8 wl_4_39) rfl rfl rfl ⟨rfl, by decide +kernel, by decide +kernel, by decide +kernel⟩ ⟨Nat.le_of_ble_eq_true rfl, Nat.le_of_ble_eq_true rfl⟩) hcs rfl rfl (Nat.le_of_ble_eq_true rfl) d_LW_law_233 rfl ?_
      refine fx_wd (Wd' := fun H => fw_Wd D aC A gX nX KX I1 H ∧ (fw_Wd D aC A gM nM KM J1 H ∧ lw_o aC q z H)) (fun H h => ⟨h.2.1, h.1, h.2.2⟩) ?_
      refine fx_icmp_eq hF (tgt := 737) (pc' := 239) d_LW_law_236 rfl rfl (fun _ => ?_) (fun z9 => absurd rfl z9)
      refine fx_iinc (pc' := 740) hF (v := nI (a + 3)) (lv' := [(4, .int (nI (a + 3))), (0, .ref b), (1, .ref (gX 0)), (2, .ref (gM 0)), (3, .ref q)]) d_LW_law_737 4 rfl (nI_add a 3) (by decide) rfl rfl ?_
      refine fx_goto hF (tgt := 53) d_LW_law_740 rfl ?_
      refine fx_lv [1, 2, 3, 4, 0] rfl ?_
      exact ih (a + 3) I1 J1 z cells slots hR1 (by omega) (by omega) (by omega) (by omega)
    have case2 : xs (nI a).toNatClampNeg &&& 31 = (2 : Int32) → fw_H p l e room_1 s m #[Value.ref b] below meth c cells slots (lw_Z below #[Value.ref b] s) 7 A (fun H => fw_Wd D aC A gX nX KX I H ∧ (fw_Wd D aC A gM nM KM J H ∧ lw_o aC q z H)) 241 [(0, .ref b), (1, .ref (gX 0)), (2, .ref (gM 0)), (3, .ref q), (4, .int (nI a))] [] := by
      intro _
      obtain ⟨r, I1, J1, hf, hg, hR1⟩ := hops.2.1 I J hR
      refine fx_aload_n (pc' := 242) hF d_LW_law_241 rfl 1 rfl rfl ?_
      refine fx_callVf (pc' := 245) (As := []) (st := []) hCX hN hA (fw_stays_and (fw_Wd_stays hXM) (lw_o_stays hqX)) hkX (by decide) rfl (ct_FL_close l D aC gX nX KX I 0 (r, I1) hnX hkX hf) (cwV 0 hF.2.2.2.2 (lw_gV hG wl_2_18 wl_2_19 wl_2_20 wq_1_1 wl_2_21) rfl rfl rfl ⟨rfl, by decide +kernel, by decide +kernel, by decide +kernel⟩ ⟨Nat.le_of_ble_eq_true rfl, Nat.le_of_ble_eq_true rfl⟩) hcs rfl rfl (Nat.le_of_ble_eq_true rfl) d_LW_law_242 rfl ?_
      refine fx_aload_n (pc' := 246) hF d_LW_law_245 rfl 2 rfl rfl ?_
      refine fx_wd (Wd' := fun H => fw_Wd D aC A gM nM KM J H ∧ (fw_Wd D aC A gX nX KX I1 H ∧ lw_o aC q z H)) (fun H h => ⟨h.2.1, h.1, h.2.2⟩) ?_
      refine fx_callVf (pc' := 249) (As := []) (st := [.int r]) hCM hN hA (fw_stays_and (fw_Wd_stays hMX) (lw_o_stays hqM)) hkM (by decide) rfl (ct_MD_close l D aC gM nM KM J 0 (r, J1) hnM hkM hg) (cwV 0 hF.2.2.2.2 (lw_gV hG wl_4_40 wl_4_41 wl_4_42 wq_1_8 wl_4_43) rfl rfl rfl ⟨rfl, by decide +kernel, by decide +kernel, by decide +kernel⟩ ⟨Nat.le_of_ble_eq_true rfl, Nat.le_of_ble_eq_true rfl⟩) hcs rfl rfl (Nat.le_of_ble_eq_true rfl) d_LW_law_246 rfl ?_
      refine fx_wd (Wd' := fun H => fw_Wd D aC A gX nX KX I1 H ∧ (fw_Wd D aC A gM nM KM J1 H ∧ lw_o aC q z H)) (fun H h => ⟨h.2.1, h.1, h.2.2⟩) ?_
      refine fx_icmp_eq hF (tgt := 737) (pc' := 252) d_LW_law_249 rfl rfl (fun _ => ?_) (fun z9 => absurd rfl z9)
      refine fx_iinc (pc' := 740) hF (v := nI (a + 3)) (lv' := [(4, .int (nI (a + 3))), (0, .ref b), (1, .ref (gX 0)), (2, .ref (gM 0)), (3, .ref q)]) d_LW_law_737 4 rfl (nI_add a 3) (by decide) rfl rfl ?_
      refine fx_goto hF (tgt := 53) d_LW_law_740 rfl ?_
      refine fx_lv [1, 2, 3, 4, 0] rfl ?_
      exact ih (a + 3) I1 J1 z cells slots hR1 (by omega) (by omega) (by omega) (by omega)
    have case3 : xs (nI a).toNatClampNeg &&& 31 = (3 : Int32) → fw_H p l e room_1 s m #[Value.ref b] below meth c cells slots (lw_Z below #[Value.ref b] s) 7 A (fun H => fw_Wd D aC A gX nX KX I H ∧ (fw_Wd D aC A gM nM KM J H ∧ lw_o aC q z H)) 254 [(0, .ref b), (1, .ref (gX 0)), (2, .ref (gM 0)), (3, .ref q), (4, .int (nI a))] [] := by
      intro _
      obtain ⟨r, I1, J1, hf, hg, hR1⟩ := hops.2.2.1 I J hR
      refine fx_aload_n (pc' := 255) hF d_LW_law_254 rfl 1 rfl rfl ?_
      refine fx_callVf (pc' := 258) (As := []) (st := []) hCX hN hA (fw_stays_and (fw_Wd_stays hXM) (lw_o_stays hqX)) hkX (by decide) rfl (ct_FL_leave l D aC gX nX KX I 0 (r, I1) hnX hkX hf) (cwV 0 hF.2.2.2.2 (lw_gV hG wl_2_26 wl_2_27 wl_2_28 wq_1_1 wl_2_29) rfl rfl rfl ⟨rfl, by decide +kernel, by decide +kernel, by decide +kernel⟩ ⟨Nat.le_of_ble_eq_true rfl, Nat.le_of_ble_eq_true rfl⟩) hcs rfl rfl (Nat.le_of_ble_eq_true rfl) d_LW_law_255 rfl ?_
      refine fx_aload_n (pc' := 259) hF d_LW_law_258 rfl 2 rfl rfl ?_
      refine fx_wd (Wd' := fun H => fw_Wd D aC A gM nM KM J H ∧ (fw_Wd D aC A gX nX KX I1 H ∧ lw_o aC q z H)) (fun H h => ⟨h.2.1, h.1, h.2.2⟩) ?_
      refine fx_callVf (pc' := 262) (As := []) (st := [.int r]) hCM hN hA (fw_stays_and (fw_Wd_stays hMX) (lw_o_stays hqM)) hkM (by decide) rfl (ct_MD_leave l D aC gM nM KM J 0 (r, J1) hnM hkM hg) (cwV 0 hF.2.2.2.2 (lw_gV hG wl_4_44 wl_4_45 wl_4_46 wq_1_8 wl_4_47) rfl rfl rfl ⟨rfl, by decide +kernel, by decide +kernel, by decide +kernel⟩ ⟨Nat.le_of_ble_eq_true rfl, Nat.le_of_ble_eq_true rfl⟩) hcs rfl rfl (Nat.le_of_ble_eq_true rfl) d_LW_law_259 rfl ?_
      refine fx_wd (Wd' := fun H => fw_Wd D aC A gX nX KX I1 H ∧ (fw_Wd D aC A gM nM KM J1 H ∧ lw_o aC q z H)) (fun H h => ⟨h.2.1, h.1, h.2.2⟩) ?_
      refine fx_icmp_eq hF (tgt := 737) (pc' := 265) d_LW_law_262 rfl rfl (fun _ => ?_) (fun z9 => absurd rfl z9)
      refine fx_iinc (pc' := 740) hF (v := nI (a + 3)) (lv' := [(4, .int (nI (a + 3))), (0, .ref b), (1, .ref (gX 0)), (2, .ref (gM 0)), (3, .ref q)]) d_LW_law_737 4 rfl (nI_add a 3) (by decide) rfl rfl ?_
      refine fx_goto hF (tgt := 53) d_LW_law_740 rfl ?_
      refine fx_lv [1, 2, 3, 4, 0] rfl ?_
      exact ih (a + 3) I1 J1 z cells slots hR1 (by omega) (by omega) (by omega) (by omega)
    have case4 : xs (nI a).toNatClampNeg &&& 31 = (4 : Int32) → fw_H p l e room_1 s m #[Value.ref b] below meth c cells slots (lw_Z below #[Value.ref b] s) 7 A (fun H => fw_Wd D aC A gX nX KX I H ∧ (fw_Wd D aC A gM nM KM J H ∧ lw_o aC q z H)) 267 [(0, .ref b), (1, .ref (gX 0)), (2, .ref (gM 0)), (3, .ref q), (4, .int (nI a))] [] := by
      intro _
      obtain ⟨r, I1, J1, hf, hg, hR1⟩ := hops.2.2.2.1 (xs (nI a + 1).toNatClampNeg) I J hR
      refine fx_aload_n (pc' := 268) hF d_LW_law_267 rfl 1 rfl rfl ?_
      refine fx_aload_n (pc' := 269) hF d_LW_law_268 rfl 0 rfl rfl ?_
      refine fx_iload (pc' := 271) hF d_LW_law_269 4 rfl rfl ?_
      refine fx_iconst (pc' := 272) hF (v := (1 : Int32)) d_LW_law_271 rfl rfl ?_
      refine fx_iadd (pc' := 273) hF d_LW_law_272 rfl ?_
      refine fx_sld (pc' := 274) hF hX hbl hbA hin1 d_LW_law_273 rfl ?_
      refine fx_callVf (pc' := 277) (As := [.int (xs (nI a + 1).toNatClampNeg)]) (st := []) hCX hN hA (fw_stays_and (fw_Wd_stays hXM) (lw_o_stays hqX)) hkX (by decide) rfl (ct_FL_recover l D aC gX nX KX I 0 (xs (nI a + 1).toNatClampNeg) (r, I1) hnX hkX hf) (cwV 1 hF.2.2.2.2 (lw_gV hG wl_2_38 wl_2_39 wl_2_40 wq_1_1 wl_2_41) rfl rfl rfl ⟨rfl, by decide +kernel, by decide +kernel, by decide +kernel⟩ ⟨Nat.le_of_ble_eq_true rfl, Nat.le_of_ble_eq_true rfl⟩) hcs rfl rfl (Nat.le_of_ble_eq_true rfl) d_LW_law_274 rfl ?_
      refine fx_aload_n (pc' := 278) hF d_LW_law_277 rfl 2 rfl rfl ?_
      refine fx_aload_n (pc' := 279) hF d_LW_law_278 rfl 0 rfl rfl ?_
      refine fx_iload (pc' := 281) hF d_LW_law_279 4 rfl rfl ?_
      refine fx_iconst (pc' := 282) hF (v := (1 : Int32)) d_LW_law_281 rfl rfl ?_
      refine fx_iadd (pc' := 283) hF d_LW_law_282 rfl ?_
      refine fx_sld (pc' := 284) hF hX hbl hbA hin1 d_LW_law_283 rfl ?_
      refine fx_wd (Wd' := fun H => fw_Wd D aC A gM nM KM J H ∧ (fw_Wd D aC A gX nX KX I1 H ∧ lw_o aC q z H)) (fun H h => ⟨h.2.1, h.1, h.2.2⟩) ?_
      refine fx_callVf (pc' := 287) (As := [.int (xs (nI a + 1).toNatClampNeg)]) (st := [.int r]) hCM hN hA (fw_stays_and (fw_Wd_stays hMX) (lw_o_stays hqM)) hkM (by decide) rfl (ct_MD_recover l D aC gM nM KM J 0 (xs (nI a + 1).toNatClampNeg) (r, J1) hnM hkM hg) (cwV 1 hF.2.2.2.2 (lw_gV hG wl_4_48 wl_4_49 wl_4_50 wq_1_8 wl_4_51) rfl rfl rfl ⟨rfl, by decide +kernel, by decide +kernel, by decide +kernel⟩ ⟨Nat.le_of_ble_eq_true rfl, Nat.le_of_ble_eq_true rfl⟩) hcs rfl rfl (Nat.le_of_ble_eq_true rfl) d_LW_law_284 rfl ?_
      refine fx_wd (Wd' := fun H => fw_Wd D aC A gX nX KX I1 H ∧ (fw_Wd D aC A gM nM KM J1 H ∧ lw_o aC q z H)) (fun H h => ⟨h.2.1, h.1, h.2.2⟩) ?_
      refine fx_icmp_eq hF (tgt := 737) (pc' := 290) d_LW_law_287 rfl rfl (fun _ => ?_) (fun z9 => absurd rfl z9)
      refine fx_iinc (pc' := 740) hF (v := nI (a + 3)) (lv' := [(4, .int (nI (a + 3))), (0, .ref b), (1, .ref (gX 0)), (2, .ref (gM 0)), (3, .ref q)]) d_LW_law_737 4 rfl (nI_add a 3) (by decide) rfl rfl ?_
      refine fx_goto hF (tgt := 53) d_LW_law_740 rfl ?_
      refine fx_lv [1, 2, 3, 4, 0] rfl ?_
      exact ih (a + 3) I1 J1 z cells slots hR1 (by omega) (by omega) (by omega) (by omega)
    have case5 : xs (nI a).toNatClampNeg &&& 31 = (5 : Int32) → fw_H p l e room_1 s m #[Value.ref b] below meth c cells slots (lw_Z below #[Value.ref b] s) 7 A (fun H => fw_Wd D aC A gX nX KX I H ∧ (fw_Wd D aC A gM nM KM J H ∧ lw_o aC q z H)) 292 [(0, .ref b), (1, .ref (gX 0)), (2, .ref (gM 0)), (3, .ref q), (4, .int (nI a))] [] := by
      intro _
      obtain ⟨r, I1, J1, hf, hg, hR1⟩ := hops.2.2.2.2.1 (xs (nI a + 1).toNatClampNeg) I J hR
      refine fx_aload_n (pc' := 293) hF d_LW_law_292 rfl 1 rfl rfl ?_
      refine fx_aload_n (pc' := 294) hF d_LW_law_293 rfl 0 rfl rfl ?_
      refine fx_iload (pc' := 296) hF d_LW_law_294 4 rfl rfl ?_
      refine fx_iconst (pc' := 297) hF (v := (1 : Int32)) d_LW_law_296 rfl rfl ?_
      refine fx_iadd (pc' := 298) hF d_LW_law_297 rfl ?_
      refine fx_sld (pc' := 299) hF hX hbl hbA hin1 d_LW_law_298 rfl ?_
      refine fx_callVf (pc' := 302) (As := [.int (xs (nI a + 1).toNatClampNeg)]) (st := []) hCX hN hA (fw_stays_and (fw_Wd_stays hXM) (lw_o_stays hqX)) hkX (by decide) rfl (ct_FL_retry l D aC gX nX KX I 0 (xs (nI a + 1).toNatClampNeg) (r, I1) hnX hkX hf) (cwV 1 hF.2.2.2.2 (lw_gV hG wl_2_57 wl_2_58 wl_2_59 wq_1_1 wl_2_60) rfl rfl rfl ⟨rfl, by decide +kernel, by decide +kernel, by decide +kernel⟩ ⟨Nat.le_of_ble_eq_true rfl, Nat.le_of_ble_eq_true rfl⟩) hcs rfl rfl (Nat.le_of_ble_eq_true rfl) d_LW_law_299 rfl ?_
      refine fx_aload_n (pc' := 303) hF d_LW_law_302 rfl 2 rfl rfl ?_
      refine fx_aload_n (pc' := 304) hF d_LW_law_303 rfl 0 rfl rfl ?_
      refine fx_iload (pc' := 306) hF d_LW_law_304 4 rfl rfl ?_
      refine fx_iconst (pc' := 307) hF (v := (1 : Int32)) d_LW_law_306 rfl rfl ?_
      refine fx_iadd (pc' := 308) hF d_LW_law_307 rfl ?_
      refine fx_sld (pc' := 309) hF hX hbl hbA hin1 d_LW_law_308 rfl ?_
      refine fx_wd (Wd' := fun H => fw_Wd D aC A gM nM KM J H ∧ (fw_Wd D aC A gX nX KX I1 H ∧ lw_o aC q z H)) (fun H h => ⟨h.2.1, h.1, h.2.2⟩) ?_
      refine fx_callVf (pc' := 312) (As := [.int (xs (nI a + 1).toNatClampNeg)]) (st := [.int r]) hCM hN hA (fw_stays_and (fw_Wd_stays hMX) (lw_o_stays hqM)) hkM (by decide) rfl (ct_MD_retry l D aC gM nM KM J 0 (xs (nI a + 1).toNatClampNeg) (r, J1) hnM hkM hg) (cwV 1 hF.2.2.2.2 (lw_gV hG wl_4_55 wl_4_56 wl_4_57 wq_1_8 wl_4_58) rfl rfl rfl ⟨rfl, by decide +kernel, by decide +kernel, by decide +kernel⟩ ⟨Nat.le_of_ble_eq_true rfl, Nat.le_of_ble_eq_true rfl⟩) hcs rfl rfl (Nat.le_of_ble_eq_true rfl) d_LW_law_309 rfl ?_
      refine fx_wd (Wd' := fun H => fw_Wd D aC A gX nX KX I1 H ∧ (fw_Wd D aC A gM nM KM J1 H ∧ lw_o aC q z H)) (fun H h => ⟨h.2.1, h.1, h.2.2⟩) ?_
      refine fx_icmp_eq hF (tgt := 737) (pc' := 315) d_LW_law_312 rfl rfl (fun _ => ?_) (fun z9 => absurd rfl z9)
      refine fx_iinc (pc' := 740) hF (v := nI (a + 3)) (lv' := [(4, .int (nI (a + 3))), (0, .ref b), (1, .ref (gX 0)), (2, .ref (gM 0)), (3, .ref q)]) d_LW_law_737 4 rfl (nI_add a 3) (by decide) rfl rfl ?_
      refine fx_goto hF (tgt := 53) d_LW_law_740 rfl ?_
      refine fx_lv [1, 2, 3, 4, 0] rfl ?_
      exact ih (a + 3) I1 J1 z cells slots hR1 (by omega) (by omega) (by omega) (by omega)
    have case6 : xs (nI a).toNatClampNeg &&& 31 = (6 : Int32) → fw_H p l e room_1 s m #[Value.ref b] below meth c cells slots (lw_Z below #[Value.ref b] s) 7 A (fun H => fw_Wd D aC A gX nX KX I H ∧ (fw_Wd D aC A gM nM KM J H ∧ lw_o aC q z H)) 317 [(0, .ref b), (1, .ref (gX 0)), (2, .ref (gM 0)), (3, .ref q), (4, .int (nI a))] [] := by
      intro _
      obtain ⟨r, I1, J1, hf, hg, hR1⟩ := hops.2.2.2.2.2.1 (xs (nI a + 1).toNatClampNeg) I J hR
      refine fx_aload_n (pc' := 318) hF d_LW_law_317 rfl 1 rfl rfl ?_
      refine fx_aload_n (pc' := 319) hF d_LW_law_318 rfl 0 rfl rfl ?_
      refine fx_iload (pc' := 321) hF d_LW_law_319 4 rfl rfl ?_
      refine fx_iconst (pc' := 322) hF (v := (1 : Int32)) d_LW_law_321 rfl rfl ?_
      refine fx_iadd (pc' := 323) hF d_LW_law_322 rfl ?_
      refine fx_sld (pc' := 324) hF hX hbl hbA hin1 d_LW_law_323 rfl ?_
      refine fx_callVf (pc' := 327) (As := [.int (xs (nI a + 1).toNatClampNeg)]) (st := []) hCX hN hA (fw_stays_and (fw_Wd_stays hXM) (lw_o_stays hqX)) hkX (by decide) rfl (ct_FL_abandon l D aC gX nX KX I 0 (xs (nI a + 1).toNatClampNeg) (r, I1) hnX hkX hf) (cwV 1 hF.2.2.2.2 (lw_gV hG wl_2_65 wl_2_66 wl_2_67 wq_1_1 wl_2_68) rfl rfl rfl ⟨rfl, by decide +kernel, by decide +kernel, by decide +kernel⟩ ⟨Nat.le_of_ble_eq_true rfl, Nat.le_of_ble_eq_true rfl⟩) hcs rfl rfl (Nat.le_of_ble_eq_true rfl) d_LW_law_324 rfl ?_
      refine fx_aload_n (pc' := 328) hF d_LW_law_327 rfl 2 rfl rfl ?_
      refine fx_aload_n (pc' := 329) hF d_LW_law_328 rfl 0 rfl rfl ?_
      refine fx_iload (pc' := 331) hF d_LW_law_329 4 rfl rfl ?_
      refine fx_iconst (pc' := 332) hF (v := (1 : Int32)) d_LW_law_331 rfl rfl ?_
      refine fx_iadd (pc' := 333) hF d_LW_law_332 rfl ?_
      refine fx_sld (pc' := 334) hF hX hbl hbA hin1 d_LW_law_333 rfl ?_
      refine fx_wd (Wd' := fun H => fw_Wd D aC A gM nM KM J H ∧ (fw_Wd D aC A gX nX KX I1 H ∧ lw_o aC q z H)) (fun H h => ⟨h.2.1, h.1, h.2.2⟩) ?_
      refine fx_callVf (pc' := 337) (As := [.int (xs (nI a + 1).toNatClampNeg)]) (st := [.int r]) hCM hN hA (fw_stays_and (fw_Wd_stays hMX) (lw_o_stays hqM)) hkM (by decide) rfl (ct_MD_abandon l D aC gM nM KM J 0 (xs (nI a + 1).toNatClampNeg) (r, J1) hnM hkM hg) (cwV 1 hF.2.2.2.2 (lw_gV hG wl_4_63 wl_4_64 wl_4_65 wq_1_8 wl_4_66) rfl rfl rfl ⟨rfl, by decide +kernel, by decide +kernel, by decide +kernel⟩ ⟨Nat.le_of_ble_eq_true rfl, Nat.le_of_ble_eq_true rfl⟩) hcs rfl rfl (Nat.le_of_ble_eq_true rfl) d_LW_law_334 rfl ?_
      refine fx_wd (Wd' := fun H => fw_Wd D aC A gX nX KX I1 H ∧ (fw_Wd D aC A gM nM KM J1 H ∧ lw_o aC q z H)) (fun H h => ⟨h.2.1, h.1, h.2.2⟩) ?_
      refine fx_icmp_eq hF (tgt := 737) (pc' := 340) d_LW_law_337 rfl rfl (fun _ => ?_) (fun z9 => absurd rfl z9)
      refine fx_iinc (pc' := 740) hF (v := nI (a + 3)) (lv' := [(4, .int (nI (a + 3))), (0, .ref b), (1, .ref (gX 0)), (2, .ref (gM 0)), (3, .ref q)]) d_LW_law_737 4 rfl (nI_add a 3) (by decide) rfl rfl ?_
      refine fx_goto hF (tgt := 53) d_LW_law_740 rfl ?_
      refine fx_lv [1, 2, 3, 4, 0] rfl ?_
      exact ih (a + 3) I1 J1 z cells slots hR1 (by omega) (by omega) (by omega) (by omega)
    have case7 : xs (nI a).toNatClampNeg &&& 31 = (7 : Int32) → fw_H p l e room_1 s m #[Value.ref b] below meth c cells slots (lw_Z below #[Value.ref b] s) 7 A (fun H => fw_Wd D aC A gX nX KX I H ∧ (fw_Wd D aC A gM nM KM J H ∧ lw_o aC q z H)) 342 [(0, .ref b), (1, .ref (gX 0)), (2, .ref (gM 0)), (3, .ref q), (4, .int (nI a))] [] := by
      intro _
      obtain ⟨r, I1, J1, hf, hg, hR1⟩ := hops.2.2.2.2.2.2.1 (xs (nI a + 1).toNatClampNeg) I J hR
      refine fx_aload_n (pc' := 343) hF d_LW_law_342 rfl 1 rfl rfl ?_
      refine fx_aload_n (pc' := 344) hF d_LW_law_343 rfl 0 rfl rfl ?_
      refine fx_iload (pc' := 346) hF d_LW_law_344 4 rfl rfl ?_
      refine fx_iconst (pc' := 347) hF (v := (1 : Int32)) d_LW_law_346 rfl rfl ?_
      refine fx_iadd (pc' := 348) hF d_LW_law_347 rfl ?_
      refine fx_sld (pc' := 349) hF hX hbl hbA hin1 d_LW_law_348 rfl ?_
      refine fx_callVf (pc' := 352) (As := [.int (xs (nI a + 1).toNatClampNeg)]) (st := []) hCX hN hA (fw_stays_and (fw_Wd_stays hXM) (lw_o_stays hqX)) hkX (by decide) rfl (ct_FL_deliver l D aC gX nX KX I 0 (xs (nI a + 1).toNatClampNeg) (r, I1) hnX hkX hf) (cwV 1 hF.2.2.2.2 (lw_gV hG wl_2_82 wl_2_83 wl_2_84 wq_1_1 wl_2_85) rfl rfl rfl ⟨rfl, by decide +kernel, by decide +kernel, by decide +kernel⟩ ⟨Nat.le_of_ble_eq_true rfl, Nat.le_of_ble_eq_true rfl⟩) hcs rfl rfl (Nat.le_of_ble_eq_true rfl) d_LW_law_349 rfl ?_
      refine fx_aload_n (pc' := 353) hF d_LW_law_352 rfl 2 rfl rfl ?_
      refine fx_aload_n (pc' := 354) hF d_LW_law_353 rfl 0 rfl rfl ?_
      refine fx_iload (pc' := 356) hF d_LW_law_354 4 rfl rfl ?_
      refine fx_iconst (pc' := 357) hF (v := (1 : Int32)) d_LW_law_356 rfl rfl ?_
      refine fx_iadd (pc' := 358) hF d_LW_law_357 rfl ?_
      refine fx_sld (pc' := 359) hF hX hbl hbA hin1 d_LW_law_358 rfl ?_
      refine fx_wd (Wd' := fun H => fw_Wd D aC A gM nM KM J H ∧ (fw_Wd D aC A gX nX KX I1 H ∧ lw_o aC q z H)) (fun H h => ⟨h.2.1, h.1, h.2.2⟩) ?_
      refine fx_callVf (pc' := 362) (As := [.int (xs (nI a + 1).toNatClampNeg)]) (st := [.int r]) hCM hN hA (fw_stays_and (fw_Wd_stays hMX) (lw_o_stays hqM)) hkM (by decide) rfl (ct_MD_deliver l D aC gM nM KM J 0 (xs (nI a + 1).toNatClampNeg) (r, J1) hnM hkM hg) (cwV 1 hF.2.2.2.2 (lw_gV hG wl_3_196 wl_3_197 wl_3_198 wq_1_8 wl_3_199) rfl rfl rfl ⟨rfl, by decide +kernel, by decide +kernel, by decide +kernel⟩ ⟨Nat.le_of_ble_eq_true rfl, Nat.le_of_ble_eq_true rfl⟩) hcs rfl rfl (Nat.le_of_ble_eq_true rfl) d_LW_law_359 rfl ?_
      refine fx_wd (Wd' := fun H => fw_Wd D aC A gX nX KX I1 H ∧ (fw_Wd D aC A gM nM KM J1 H ∧ lw_o aC q z H)) (fun H h => ⟨h.2.1, h.1, h.2.2⟩) ?_
      refine fx_icmp_eq hF (tgt := 737) (pc' := 365) d_LW_law_362 rfl rfl (fun _ => ?_) (fun z9 => absurd rfl z9)
      refine fx_iinc (pc' := 740) hF (v := nI (a + 3)) (lv' := [(4, .int (nI (a + 3))), (0, .ref b), (1, .ref (gX 0)), (2, .ref (gM 0)), (3, .ref q)]) d_LW_law_737 4 rfl (nI_add a 3) (by decide) rfl rfl ?_
      refine fx_goto hF (tgt := 53) d_LW_law_740 rfl ?_
      refine fx_lv [1, 2, 3, 4, 0] rfl ?_
      exact ih (a + 3) I1 J1 z cells slots hR1 (by omega) (by omega) (by omega) (by omega)
    have case8 : xs (nI a).toNatClampNeg &&& 31 = (8 : Int32) → fw_H p l e room_1 s m #[Value.ref b] below meth c cells slots (lw_Z below #[Value.ref b] s) 7 A (fun H => fw_Wd D aC A gX nX KX I H ∧ (fw_Wd D aC A gM nM KM J H ∧ lw_o aC q z H)) 367 [(0, .ref b), (1, .ref (gX 0)), (2, .ref (gM 0)), (3, .ref q), (4, .int (nI a))] [] := by
      intro _
      obtain ⟨r, I1, J1, hf, hg, hR1⟩ := hops.2.2.2.2.2.2.2.1 (xs (nI a + 1).toNatClampNeg) I J hR
      refine fx_aload_n (pc' := 368) hF d_LW_law_367 rfl 1 rfl rfl ?_
      refine fx_aload_n (pc' := 369) hF d_LW_law_368 rfl 0 rfl rfl ?_
      refine fx_iload (pc' := 371) hF d_LW_law_369 4 rfl rfl ?_
      refine fx_iconst (pc' := 372) hF (v := (1 : Int32)) d_LW_law_371 rfl rfl ?_
      refine fx_iadd (pc' := 373) hF d_LW_law_372 rfl ?_
      refine fx_sld (pc' := 374) hF hX hbl hbA hin1 d_LW_law_373 rfl ?_
      refine fx_callVf (pc' := 377) (As := [.int (xs (nI a + 1).toNatClampNeg)]) (st := []) hCX hN hA (fw_stays_and (fw_Wd_stays hXM) (lw_o_stays hqX)) hkX (by decide) rfl (ct_FL_lose l D aC gX nX KX I 0 (xs (nI a + 1).toNatClampNeg) (r, I1) hnX hkX hf) (cwV 1 hF.2.2.2.2 (lw_gV hG wl_2_173 wl_2_174 wl_2_175 wq_1_1 wl_2_176) rfl rfl rfl ⟨rfl, by decide +kernel, by decide +kernel, by decide +kernel⟩ ⟨Nat.le_of_ble_eq_true rfl, Nat.le_of_ble_eq_true rfl⟩) hcs rfl rfl (Nat.le_of_ble_eq_true rfl) d_LW_law_374 rfl ?_
      refine fx_aload_n (pc' := 378) hF d_LW_law_377 rfl 2 rfl rfl ?_
      refine fx_aload_n (pc' := 379) hF d_LW_law_378 rfl 0 rfl rfl ?_
      refine fx_iload (pc' := 381) hF d_LW_law_379 4 rfl rfl ?_
      refine fx_iconst (pc' := 382) hF (v := (1 : Int32)) d_LW_law_381 rfl rfl ?_
      refine fx_iadd (pc' := 383) hF d_LW_law_382 rfl ?_
      refine fx_sld (pc' := 384) hF hX hbl hbA hin1 d_LW_law_383 rfl ?_
      refine fx_wd (Wd' := fun H => fw_Wd D aC A gM nM KM J H ∧ (fw_Wd D aC A gX nX KX I1 H ∧ lw_o aC q z H)) (fun H h => ⟨h.2.1, h.1, h.2.2⟩) ?_
      refine fx_callVf (pc' := 387) (As := [.int (xs (nI a + 1).toNatClampNeg)]) (st := [.int r]) hCM hN hA (fw_stays_and (fw_Wd_stays hMX) (lw_o_stays hqM)) hkM (by decide) rfl (ct_MD_lose l D aC gM nM KM J 0 (xs (nI a + 1).toNatClampNeg) (r, J1) hnM hkM hg) (cwV 1 hF.2.2.2.2 (lw_gV hG wl_4_16 wl_4_17 wl_4_18 wq_1_8 wl_4_19) rfl rfl rfl ⟨rfl, by decide +kernel, by decide +kernel, by decide +kernel⟩ ⟨Nat.le_of_ble_eq_true rfl, Nat.le_of_ble_eq_true rfl⟩) hcs rfl rfl (Nat.le_of_ble_eq_true rfl) d_LW_law_384 rfl ?_
      refine fx_wd (Wd' := fun H => fw_Wd D aC A gX nX KX I1 H ∧ (fw_Wd D aC A gM nM KM J1 H ∧ lw_o aC q z H)) (fun H h => ⟨h.2.1, h.1, h.2.2⟩) ?_
      refine fx_icmp_eq hF (tgt := 737) (pc' := 390) d_LW_law_387 rfl rfl (fun _ => ?_) (fun z9 => absurd rfl z9)
      refine fx_iinc (pc' := 740) hF (v := nI (a + 3)) (lv' := [(4, .int (nI (a + 3))), (0, .ref b), (1, .ref (gX 0)), (2, .ref (gM 0)), (3, .ref q)]) d_LW_law_737 4 rfl (nI_add a 3) (by decide) rfl rfl ?_
      refine fx_goto hF (tgt := 53) d_LW_law_740 rfl ?_
      refine fx_lv [1, 2, 3, 4, 0] rfl ?_
      exact ih (a + 3) I1 J1 z cells slots hR1 (by omega) (by omega) (by omega) (by omega)
    have case9 : xs (nI a).toNatClampNeg &&& 31 = (9 : Int32) → fw_H p l e room_1 s m #[Value.ref b] below meth c cells slots (lw_Z below #[Value.ref b] s) 7 A (fun H => fw_Wd D aC A gX nX KX I H ∧ (fw_Wd D aC A gM nM KM J H ∧ lw_o aC q z H)) 392 [(0, .ref b), (1, .ref (gX 0)), (2, .ref (gM 0)), (3, .ref q), (4, .int (nI a))] [] := by
      intro _
      obtain ⟨r, I1, J1, hf, hg, hR1⟩ := hops.2.2.2.2.2.2.2.2.1 I J hR
      refine fx_aload_n (pc' := 393) hF d_LW_law_392 rfl 1 rfl rfl ?_
      refine fx_callVf (pc' := 396) (As := []) (st := []) hCX hN hA (fw_stays_and (fw_Wd_stays hXM) (lw_o_stays hqX)) hkX (by decide) rfl (ct_FL_flight l D aC gX nX KX I 0 (r, I1) hnX hkX hf) (cwV 0 hF.2.2.2.2 (lw_gV hG wl_2_177 wl_2_178 wl_2_179 wq_1_1 wl_2_180) rfl rfl rfl ⟨rfl, by decide +kernel, by decide +kernel, by decide +kernel⟩ ⟨Nat.le_of_ble_eq_true rfl, Nat.le_of_ble_eq_true rfl⟩) hcs rfl rfl (Nat.le_of_ble_eq_true rfl) d_LW_law_393 rfl ?_
      refine fx_aload_n (pc' := 397) hF d_LW_law_396 rfl 2 rfl rfl ?_
      refine fx_wd (Wd' := fun H => fw_Wd D aC A gM nM KM J H ∧ (fw_Wd D aC A gX nX KX I1 H ∧ lw_o aC q z H)) (fun H h => ⟨h.2.1, h.1, h.2.2⟩) ?_
      refine fx_callVf (pc' := 400) (As := []) (st := [.int r]) hCM hN hA (fw_stays_and (fw_Wd_stays hMX) (lw_o_stays hqM)) hkM (by decide) rfl (ct_MD_flight l D aC gM nM KM J 0 (r, J1) hnM hkM hg) (cwV 0 hF.2.2.2.2 (lw_gV hG wl_4_20 wl_4_21 wl_4_22 wq_1_8 wl_4_23) rfl rfl rfl ⟨rfl, by decide +kernel, by decide +kernel, by decide +kernel⟩ ⟨Nat.le_of_ble_eq_true rfl, Nat.le_of_ble_eq_true rfl⟩) hcs rfl rfl (Nat.le_of_ble_eq_true rfl) d_LW_law_397 rfl ?_
      refine fx_wd (Wd' := fun H => fw_Wd D aC A gX nX KX I1 H ∧ (fw_Wd D aC A gM nM KM J1 H ∧ lw_o aC q z H)) (fun H h => ⟨h.2.1, h.1, h.2.2⟩) ?_
      refine fx_icmp_eq hF (tgt := 737) (pc' := 403) d_LW_law_400 rfl rfl (fun _ => ?_) (fun z9 => absurd rfl z9)
      refine fx_iinc (pc' := 740) hF (v := nI (a + 3)) (lv' := [(4, .int (nI (a + 3))), (0, .ref b), (1, .ref (gX 0)), (2, .ref (gM 0)), (3, .ref q)]) d_LW_law_737 4 rfl (nI_add a 3) (by decide) rfl rfl ?_
      refine fx_goto hF (tgt := 53) d_LW_law_740 rfl ?_
      refine fx_lv [1, 2, 3, 4, 0] rfl ?_
      exact ih (a + 3) I1 J1 z cells slots hR1 (by omega) (by omega) (by omega) (by omega)
    have case10 : xs (nI a).toNatClampNeg &&& 31 = (10 : Int32) → fw_H p l e room_1 s m #[Value.ref b] below meth c cells slots (lw_Z below #[Value.ref b] s) 7 A (fun H => fw_Wd D aC A gX nX KX I H ∧ (fw_Wd D aC A gM nM KM J H ∧ lw_o aC q z H)) 405 [(0, .ref b), (1, .ref (gX 0)), (2, .ref (gM 0)), (3, .ref q), (4, .int (nI a))] [] := by
      intro _
      obtain ⟨r, I1, J1, hf, hg, hR1⟩ := hops.2.2.2.2.2.2.2.2.2.1 (xs (nI a + 1).toNatClampNeg) (xs (nI a + 2).toNatClampNeg) I J hR
      refine fx_aload_n (pc' := 406) hF d_LW_law_405 rfl 1 rfl rfl ?_
      refine fx_aload_n (pc' := 407) hF d_LW_law_406 rfl 0 rfl rfl ?_
      refine fx_iload (pc' := 409) hF d_LW_law_407 4 rfl rfl ?_
      refine fx_iconst (pc' := 410) hF (v := (1 : Int32)) d_LW_law_409 rfl rfl ?_
      refine fx_iadd (pc' := 411) hF d_LW_law_410 rfl ?_
      refine fx_sld (pc' := 412) hF hX hbl hbA hin1 d_LW_law_411 rfl ?_
      refine fx_aload_n (pc' := 413) hF d_LW_law_412 rfl 0 rfl rfl ?_
      refine fx_iload (pc' := 415) hF d_LW_law_413 4 rfl rfl ?_
      refine fx_iconst (pc' := 416) hF (v := (2 : Int32)) d_LW_law_415 rfl rfl ?_
      refine fx_iadd (pc' := 417) hF d_LW_law_416 rfl ?_
      refine fx_sld (pc' := 418) hF hX hbl hbA hin2 d_LW_law_417 rfl ?_
      refine fx_callVf (pc' := 421) (As := [.int (xs (nI a + 1).toNatClampNeg), .int (xs (nI a + 2).toNatClampNeg)]) (st := []) hCX hN hA (fw_stays_and (fw_Wd_stays hXM) (lw_o_stays hqX)) hkX (by decide) rfl (ct_FL_message l D aC gX nX KX I 0 (xs (nI a + 1).toNatClampNeg) (xs (nI a + 2).toNatClampNeg) (r, I1) hnX hkX hf) (cwV 2 hF.2.2.2.2 (lw_gV hG wl_2_181 wl_2_182 wl_2_183 wq_1_1 wl_2_184) rfl rfl rfl ⟨rfl, by decide +kernel, by decide +kernel, by decide +kernel⟩ ⟨Nat.le_of_ble_eq_true rfl, Nat.le_of_ble_eq_true rfl⟩) hcs rfl rfl (Nat.le_of_ble_eq_true rfl) d_LW_law_418 rfl ?_
      refine fx_aload_n (pc' := 422) hF d_LW_law_421 rfl 2 rfl rfl ?_
      refine fx_aload_n (pc' := 423) hF d_LW_law_422 rfl 0 rfl rfl ?_
      refine fx_iload (pc' := 425) hF d_LW_law_423 4 rfl rfl ?_
      refine fx_iconst (pc' := 426) hF (v := (1 : Int32)) d_LW_law_425 rfl rfl ?_
      refine fx_iadd (pc' := 427) hF d_LW_law_426 rfl ?_
      refine fx_sld (pc' := 428) hF hX hbl hbA hin1 d_LW_law_427 rfl ?_
      refine fx_aload_n (pc' := 429) hF d_LW_law_428 rfl 0 rfl rfl ?_
      refine fx_iload (pc' := 431) hF d_LW_law_429 4 rfl rfl ?_
      refine fx_iconst (pc' := 432) hF (v := (2 : Int32)) d_LW_law_431 rfl rfl ?_
      refine fx_iadd (pc' := 433) hF d_LW_law_432 rfl ?_
      refine fx_sld (pc' := 434) hF hX hbl hbA hin2 d_LW_law_433 rfl ?_
      refine fx_wd (Wd' := fun H => fw_Wd D aC A gM nM KM J H ∧ (fw_Wd D aC A gX nX KX I1 H ∧ lw_o aC q z H)) (fun H h => ⟨h.2.1, h.1, h.2.2⟩) ?_
      refine fx_callVf (pc' := 437) (As := [.int (xs (nI a + 1).toNatClampNeg), .int (xs (nI a + 2).toNatClampNeg)]) (st := [.int r]) hCM hN hA (fw_stays_and (fw_Wd_stays hMX) (lw_o_stays hqM)) hkM (by decide) rfl (ct_MD_message l D aC gM nM KM J 0 (xs (nI a + 1).toNatClampNeg) (xs (nI a + 2).toNatClampNeg) (r, J1) hnM hkM hg) (cwV 2 hF.2.2.2.2 (lw_gV hG wl_4_24 wl_4_25 wl_4_26 wq_1_8 wl_4_27) rfl rfl rfl ⟨rfl, by decide +kernel, by decide +kernel, by decide +kernel⟩ ⟨Nat.le_of_ble_eq_true rfl, Nat.le_of_ble_eq_true rfl⟩) hcs rfl rfl (Nat.le_of_ble_eq_true rfl) d_LW_law_434 rfl ?_
      refine fx_wd (Wd' := fun H => fw_Wd D aC A gX nX KX I1 H ∧ (fw_Wd D aC A gM nM KM J1 H ∧ lw_o aC q z H)) (fun H h => ⟨h.2.1, h.1, h.2.2⟩) ?_
      refine fx_icmp_eq hF (tgt := 737) (pc' := 440) d_LW_law_437 rfl rfl (fun _ => ?_) (fun z9 => absurd rfl z9)
      refine fx_iinc (pc' := 740) hF (v := nI (a + 3)) (lv' := [(4, .int (nI (a + 3))), (0, .ref b), (1, .ref (gX 0)), (2, .ref (gM 0)), (3, .ref q)]) d_LW_law_737 4 rfl (nI_add a 3) (by decide) rfl rfl ?_
      refine fx_goto hF (tgt := 53) d_LW_law_740 rfl ?_
      refine fx_lv [1, 2, 3, 4, 0] rfl ?_
      exact ih (a + 3) I1 J1 z cells slots hR1 (by omega) (by omega) (by omega) (by omega)
    have case11 : xs (nI a).toNatClampNeg &&& 31 = (11 : Int32) → fw_H p l e room_1 s m #[Value.ref b] below meth c cells slots (lw_Z below #[Value.ref b] s) 7 A (fun H => fw_Wd D aC A gX nX KX I H ∧ (fw_Wd D aC A gM nM KM J H ∧ lw_o aC q z H)) 442 [(0, .ref b), (1, .ref (gX 0)), (2, .ref (gM 0)), (3, .ref q), (4, .int (nI a))] [] := by
      intro _
      by_cases hv : (xs (nI a + 2).toNatClampNeg) = 0
      · obtain ⟨r, I1, J1, hf, hg, hR1⟩ := hops.2.2.2.2.2.2.2.2.2.2.1 (xs (nI a + 1).toNatClampNeg) 0 (Or.inl rfl) I J hR
        refine fx_aload_n (pc' := 443) hF d_LW_law_442 rfl 1 rfl rfl ?_
        refine fx_aload_n (pc' := 444) hF d_LW_law_443 rfl 0 rfl rfl ?_
        refine fx_iload (pc' := 446) hF d_LW_law_444 4 rfl rfl ?_
        refine fx_iconst (pc' := 447) hF (v := (1 : Int32)) d_LW_law_446 rfl rfl ?_
        refine fx_iadd (pc' := 448) hF d_LW_law_447 rfl ?_
        refine fx_sld (pc' := 449) hF hX hbl hbA hin1 d_LW_law_448 rfl ?_
        refine fx_aload_n (pc' := 450) hF d_LW_law_449 rfl 0 rfl rfl ?_
        refine fx_iload (pc' := 452) hF d_LW_law_450 4 rfl rfl ?_
        refine fx_iconst (pc' := 453) hF (v := (2 : Int32)) d_LW_law_452 rfl rfl ?_
        refine fx_iadd (pc' := 454) hF d_LW_law_453 rfl ?_
        refine fx_sld (pc' := 455) hF hX hbl hbA hin2 d_LW_law_454 rfl ?_
        refine fx_if_eq hF (tgt := 462) (pc' := 458) d_LW_law_455 rfl rfl (fun _ => ?_) (fun z9 => absurd hv z9)
        refine fx_iconst (pc' := 463) hF (v := (0 : Int32)) d_LW_law_462 rfl rfl ?_
        refine fx_callVf (pc' := 466) (As := [.int (xs (nI a + 1).toNatClampNeg), .int 0]) (st := []) hCX hN hA (fw_stays_and (fw_Wd_stays hXM) (lw_o_stays hqX)) hkX (by decide) rfl (ct_FL_power l D aC gX nX KX I 0 (xs (nI a + 1).toNatClampNeg) 0 (r, I1) hnX hkX hf) (cwV 2 hF.2.2.2.2 (lw_gV hG wl_2_189 wl_2_190 wl_2_191 wq_1_1 wl_2_192) rfl rfl rfl ⟨rfl, by decide +kernel, by decide +kernel, by decide +kernel⟩ ⟨Nat.le_of_ble_eq_true rfl, Nat.le_of_ble_eq_true rfl⟩) hcs rfl rfl (Nat.le_of_ble_eq_true rfl) d_LW_law_463 rfl ?_
        refine fx_aload_n (pc' := 467) hF d_LW_law_466 rfl 2 rfl rfl ?_
        refine fx_aload_n (pc' := 468) hF d_LW_law_467 rfl 0 rfl rfl ?_
        refine fx_iload (pc' := 470) hF d_LW_law_468 4 rfl rfl ?_
        refine fx_iconst (pc' := 471) hF (v := (1 : Int32)) d_LW_law_470 rfl rfl ?_
        refine fx_iadd (pc' := 472) hF d_LW_law_471 rfl ?_
        refine fx_sld (pc' := 473) hF hX hbl hbA hin1 d_LW_law_472 rfl ?_
        refine fx_aload_n (pc' := 474) hF d_LW_law_473 rfl 0 rfl rfl ?_
        refine fx_iload (pc' := 476) hF d_LW_law_474 4 rfl rfl ?_
        refine fx_iconst (pc' := 477) hF (v := (2 : Int32)) d_LW_law_476 rfl rfl ?_
        refine fx_iadd (pc' := 478) hF d_LW_law_477 rfl ?_
        refine fx_sld (pc' := 479) hF hX hbl hbA hin2 d_LW_law_478 rfl ?_
        refine fx_if_eq hF (tgt := 486) (pc' := 482) d_LW_law_479 rfl rfl (fun _ => ?_) (fun z9 => absurd hv z9)
        refine fx_iconst (pc' := 487) hF (v := (0 : Int32)) d_LW_law_486 rfl rfl ?_
        refine fx_wd (Wd' := fun H => fw_Wd D aC A gM nM KM J H ∧ (fw_Wd D aC A gX nX KX I1 H ∧ lw_o aC q z H)) (fun H h => ⟨h.2.1, h.1, h.2.2⟩) ?_
        refine fx_callVf (pc' := 490) (As := [.int (xs (nI a + 1).toNatClampNeg), .int 0]) (st := [.int r]) hCM hN hA (fw_stays_and (fw_Wd_stays hMX) (lw_o_stays hqM)) hkM (by decide) rfl (ct_MD_power l D aC gM nM KM J 0 (xs (nI a + 1).toNatClampNeg) 0 (r, J1) hnM hkM hg) (cwV 2 hF.2.2.2.2 (lw_gV hG wl_4_67 wl_4_68 wl_4_69 wq_1_8 wl_4_70) rfl rfl rfl ⟨rfl, by decide +kernel, by decide +kernel, by decide +kernel⟩ ⟨Nat.le_of_ble_eq_true rfl, Nat.le_of_ble_eq_true rfl⟩) hcs rfl rfl (Nat.le_of_ble_eq_true rfl) d_LW_law_487 rfl ?_
        refine fx_wd (Wd' := fun H => fw_Wd D aC A gX nX KX I1 H ∧ (fw_Wd D aC A gM nM KM J1 H ∧ lw_o aC q z H)) (fun H h => ⟨h.2.1, h.1, h.2.2⟩) ?_
        refine fx_icmp_eq hF (tgt := 737) (pc' := 493) d_LW_law_490 rfl rfl (fun _ => ?_) (fun z9 => absurd rfl z9)
        refine fx_iinc (pc' := 740) hF (v := nI (a + 3)) (lv' := [(4, .int (nI (a + 3))), (0, .ref b), (1, .ref (gX 0)), (2, .ref (gM 0)), (3, .ref q)]) d_LW_law_737 4 rfl (nI_add a 3) (by decide) rfl rfl ?_
        refine fx_goto hF (tgt := 53) d_LW_law_740 rfl ?_
        refine fx_lv [1, 2, 3, 4, 0] rfl ?_
        exact ih (a + 3) I1 J1 z cells slots hR1 (by omega) (by omega) (by omega) (by omega)
      · obtain ⟨r, I1, J1, hf, hg, hR1⟩ := hops.2.2.2.2.2.2.2.2.2.2.1 (xs (nI a + 1).toNatClampNeg) 1 (Or.inr rfl) I J hR
        refine fx_aload_n (pc' := 443) hF d_LW_law_442 rfl 1 rfl rfl ?_
        refine fx_aload_n (pc' := 444) hF d_LW_law_443 rfl 0 rfl rfl ?_
        refine fx_iload (pc' := 446) hF d_LW_law_444 4 rfl rfl ?_
        refine fx_iconst (pc' := 447) hF (v := (1 : Int32)) d_LW_law_446 rfl rfl ?_
        refine fx_iadd (pc' := 448) hF d_LW_law_447 rfl ?_
        refine fx_sld (pc' := 449) hF hX hbl hbA hin1 d_LW_law_448 rfl ?_
        refine fx_aload_n (pc' := 450) hF d_LW_law_449 rfl 0 rfl rfl ?_
        refine fx_iload (pc' := 452) hF d_LW_law_450 4 rfl rfl ?_
        refine fx_iconst (pc' := 453) hF (v := (2 : Int32)) d_LW_law_452 rfl rfl ?_
        refine fx_iadd (pc' := 454) hF d_LW_law_453 rfl ?_
        refine fx_sld (pc' := 455) hF hX hbl hbA hin2 d_LW_law_454 rfl ?_
        refine fx_if_eq hF (tgt := 462) (pc' := 458) d_LW_law_455 rfl rfl (fun z9 => absurd z9 hv) (fun _ => ?_)
        refine fx_iconst (pc' := 459) hF (v := (1 : Int32)) d_LW_law_458 rfl rfl ?_
        refine fx_goto hF (tgt := 463) d_LW_law_459 rfl ?_
        refine fx_callVf (pc' := 466) (As := [.int (xs (nI a + 1).toNatClampNeg), .int 1]) (st := []) hCX hN hA (fw_stays_and (fw_Wd_stays hXM) (lw_o_stays hqX)) hkX (by decide) rfl (ct_FL_power l D aC gX nX KX I 0 (xs (nI a + 1).toNatClampNeg) 1 (r, I1) hnX hkX hf) (cwV 2 hF.2.2.2.2 (lw_gV hG wl_2_189 wl_2_190 wl_2_191 wq_1_1 wl_2_192) rfl rfl rfl ⟨rfl, by decide +kernel, by decide +kernel, by decide +kernel⟩ ⟨Nat.le_of_ble_eq_true rfl, Nat.le_of_ble_eq_true rfl⟩) hcs rfl rfl (Nat.le_of_ble_eq_true rfl) d_LW_law_463 rfl ?_
        refine fx_aload_n (pc' := 467) hF d_LW_law_466 rfl 2 rfl rfl ?_
        refine fx_aload_n (pc' := 468) hF d_LW_law_467 rfl 0 rfl rfl ?_
        refine fx_iload (pc' := 470) hF d_LW_law_468 4 rfl rfl ?_
        refine fx_iconst (pc' := 471) hF (v := (1 : Int32)) d_LW_law_470 rfl rfl ?_
        refine fx_iadd (pc' := 472) hF d_LW_law_471 rfl ?_
        refine fx_sld (pc' := 473) hF hX hbl hbA hin1 d_LW_law_472 rfl ?_
        refine fx_aload_n (pc' := 474) hF d_LW_law_473 rfl 0 rfl rfl ?_
        refine fx_iload (pc' := 476) hF d_LW_law_474 4 rfl rfl ?_
        refine fx_iconst (pc' := 477) hF (v := (2 : Int32)) d_LW_law_476 rfl rfl ?_
        refine fx_iadd (pc' := 478) hF d_LW_law_477 rfl ?_
        refine fx_sld (pc' := 479) hF hX hbl hbA hin2 d_LW_law_478 rfl ?_
        refine fx_if_eq hF (tgt := 486) (pc' := 482) d_LW_law_479 rfl rfl (fun z9 => absurd z9 hv) (fun _ => ?_)
        refine fx_iconst (pc' := 483) hF (v := (1 : Int32)) d_LW_law_482 rfl rfl ?_
        refine fx_goto hF (tgt := 487) d_LW_law_483 rfl ?_
        refine fx_wd (Wd' := fun H => fw_Wd D aC A gM nM KM J H ∧ (fw_Wd D aC A gX nX KX I1 H ∧ lw_o aC q z H)) (fun H h => ⟨h.2.1, h.1, h.2.2⟩) ?_
        refine fx_callVf (pc' := 490) (As := [.int (xs (nI a + 1).toNatClampNeg), .int 1]) (st := [.int r]) hCM hN hA (fw_stays_and (fw_Wd_stays hMX) (lw_o_stays hqM)) hkM (by decide) rfl (ct_MD_power l D aC gM nM KM J 0 (xs (nI a + 1).toNatClampNeg) 1 (r, J1) hnM hkM hg) (cwV 2 hF.2.2.2.2 (lw_gV hG wl_4_67 wl_4_68 wl_4_69 wq_1_8 wl_4_70) rfl rfl rfl ⟨rfl, by decide +kernel, by decide +kernel, by decide +kernel⟩ ⟨Nat.le_of_ble_eq_true rfl, Nat.le_of_ble_eq_true rfl⟩) hcs rfl rfl (Nat.le_of_ble_eq_true rfl) d_LW_law_487 rfl ?_
        refine fx_wd (Wd' := fun H => fw_Wd D aC A gX nX KX I1 H ∧ (fw_Wd D aC A gM nM KM J1 H ∧ lw_o aC q z H)) (fun H h => ⟨h.2.1, h.1, h.2.2⟩) ?_
        refine fx_icmp_eq hF (tgt := 737) (pc' := 493) d_LW_law_490 rfl rfl (fun _ => ?_) (fun z9 => absurd rfl z9)
        refine fx_iinc (pc' := 740) hF (v := nI (a + 3)) (lv' := [(4, .int (nI (a + 3))), (0, .ref b), (1, .ref (gX 0)), (2, .ref (gM 0)), (3, .ref q)]) d_LW_law_737 4 rfl (nI_add a 3) (by decide) rfl rfl ?_
        refine fx_goto hF (tgt := 53) d_LW_law_740 rfl ?_
        refine fx_lv [1, 2, 3, 4, 0] rfl ?_
        exact ih (a + 3) I1 J1 z cells slots hR1 (by omega) (by omega) (by omega) (by omega)
    have case12 : xs (nI a).toNatClampNeg &&& 31 = (12 : Int32) → fw_H p l e room_1 s m #[Value.ref b] below meth c cells slots (lw_Z below #[Value.ref b] s) 7 A (fun H => fw_Wd D aC A gX nX KX I H ∧ (fw_Wd D aC A gM nM KM J H ∧ lw_o aC q z H)) 495 [(0, .ref b), (1, .ref (gX 0)), (2, .ref (gM 0)), (3, .ref q), (4, .int (nI a))] [] := by
      intro _
      obtain ⟨r, I1, J1, hf, hg, hR1⟩ := hops.2.2.2.2.2.2.2.2.2.2.2.1 (xs (nI a + 1).toNatClampNeg) (xs (nI a + 2).toNatClampNeg) I J hR
      refine fx_aload_n (pc' := 496) hF d_LW_law_495 rfl 1 rfl rfl ?_
      refine fx_aload_n (pc' := 497) hF d_LW_law_496 rfl 0 rfl rfl ?_
      refine fx_iload (pc' := 499) hF d_LW_law_497 4 rfl rfl ?_
      refine fx_iconst (pc' := 500) hF (v := (1 : Int32)) d_LW_law_499 rfl rfl ?_
      refine fx_iadd (pc' := 501) hF d_LW_law_500 rfl ?_
      refine fx_sld (pc' := 502) hF hX hbl hbA hin1 d_LW_law_501 rfl ?_
      refine fx_aload_n (pc' := 503) hF d_LW_law_502 rfl 0 rfl rfl ?_
      refine fx_iload (pc' := 505) hF d_LW_law_503 4 rfl rfl ?_
      refine fx_iconst (pc' := 506) hF (v := (2 : Int32)) d_LW_law_505 rfl rfl ?_
      refine fx_iadd (pc' := 507) hF d_LW_law_506 rfl ?_
      refine fx_sld (pc' := 508) hF hX hbl hbA hin2 d_LW_law_507 rfl ?_
      refine fx_callVf (pc' := 511) (As := [.int (xs (nI a + 1).toNatClampNeg), .int (xs (nI a + 2).toNatClampNeg)]) (st := []) hCX hN hA (fw_stays_and (fw_Wd_stays hXM) (lw_o_stays hqX)) hkX (by decide) rfl (ct_FL_store l D aC gX nX KX I 0 (xs (nI a + 1).toNatClampNeg) (xs (nI a + 2).toNatClampNeg) (r, I1) hnX hkX hf) (cwV 2 hF.2.2.2.2 (lw_gV hG wl_2_197 wl_2_198 wl_2_199 wq_1_1 wl_2_200) rfl rfl rfl ⟨rfl, by decide +kernel, by decide +kernel, by decide +kernel⟩ ⟨Nat.le_of_ble_eq_true rfl, Nat.le_of_ble_eq_true rfl⟩) hcs rfl rfl (Nat.le_of_ble_eq_true rfl) d_LW_law_508 rfl ?_
      refine fx_aload_n (pc' := 512) hF d_LW_law_511 rfl 2 rfl rfl ?_
      refine fx_aload_n (pc' := 513) hF d_LW_law_512 rfl 0 rfl rfl ?_
      refine fx_iload (pc' := 515) hF d_LW_law_513 4 rfl rfl ?_
      refine fx_iconst (pc' := 516) hF (v := (1 : Int32)) d_LW_law_515 rfl rfl ?_
      refine fx_iadd (pc' := 517) hF d_LW_law_516 rfl ?_
      refine fx_sld (pc' := 518) hF hX hbl hbA hin1 d_LW_law_517 rfl ?_
      refine fx_aload_n (pc' := 519) hF d_LW_law_518 rfl 0 rfl rfl ?_
      refine fx_iload (pc' := 521) hF d_LW_law_519 4 rfl rfl ?_
      refine fx_iconst (pc' := 522) hF (v := (2 : Int32)) d_LW_law_521 rfl rfl ?_
      refine fx_iadd (pc' := 523) hF d_LW_law_522 rfl ?_
      refine fx_sld (pc' := 524) hF hX hbl hbA hin2 d_LW_law_523 rfl ?_
      refine fx_wd (Wd' := fun H => fw_Wd D aC A gM nM KM J H ∧ (fw_Wd D aC A gX nX KX I1 H ∧ lw_o aC q z H)) (fun H h => ⟨h.2.1, h.1, h.2.2⟩) ?_
      refine fx_callVf (pc' := 527) (As := [.int (xs (nI a + 1).toNatClampNeg), .int (xs (nI a + 2).toNatClampNeg)]) (st := [.int r]) hCM hN hA (fw_stays_and (fw_Wd_stays hMX) (lw_o_stays hqM)) hkM (by decide) rfl (ct_MD_store l D aC gM nM KM J 0 (xs (nI a + 1).toNatClampNeg) (xs (nI a + 2).toNatClampNeg) (r, J1) hnM hkM hg) (cwV 2 hF.2.2.2.2 (lw_gV hG wl_4_75 wl_4_76 wl_4_77 wq_1_8 wl_4_78) rfl rfl rfl ⟨rfl, by decide +kernel, by decide +kernel, by decide +kernel⟩ ⟨Nat.le_of_ble_eq_true rfl, Nat.le_of_ble_eq_true rfl⟩) hcs rfl rfl (Nat.le_of_ble_eq_true rfl) d_LW_law_524 rfl ?_
      refine fx_wd (Wd' := fun H => fw_Wd D aC A gX nX KX I1 H ∧ (fw_Wd D aC A gM nM KM J1 H ∧ lw_o aC q z H)) (fun H h => ⟨h.2.1, h.1, h.2.2⟩) ?_
      refine fx_icmp_eq hF (tgt := 737) (pc' := 530) d_LW_law_527 rfl rfl (fun _ => ?_) (fun z9 => absurd rfl z9)
      refine fx_iinc (pc' := 740) hF (v := nI (a + 3)) (lv' := [(4, .int (nI (a + 3))), (0, .ref b), (1, .ref (gX 0)), (2, .ref (gM 0)), (3, .ref q)]) d_LW_law_737 4 rfl (nI_add a 3) (by decide) rfl rfl ?_
      refine fx_goto hF (tgt := 53) d_LW_law_740 rfl ?_
      refine fx_lv [1, 2, 3, 4, 0] rfl ?_
      exact ih (a + 3) I1 J1 z cells slots hR1 (by omega) (by omega) (by omega) (by omega)
    have case13 : xs (nI a).toNatClampNeg &&& 31 = (13 : Int32) → fw_H p l e room_1 s m #[Value.ref b] below meth c cells slots (lw_Z below #[Value.ref b] s) 7 A (fun H => fw_Wd D aC A gX nX KX I H ∧ (fw_Wd D aC A gM nM KM J H ∧ lw_o aC q z H)) 532 [(0, .ref b), (1, .ref (gX 0)), (2, .ref (gM 0)), (3, .ref q), (4, .int (nI a))] [] := by
      intro _
      obtain ⟨r, I1, J1, hf, hg, hR1⟩ := hops.2.2.2.2.2.2.2.2.2.2.2.2.1 (xs (nI a + 1).toNatClampNeg) (xs (nI a + 2).toNatClampNeg) I J hR
      refine fx_aload_n (pc' := 533) hF d_LW_law_532 rfl 1 rfl rfl ?_
      refine fx_aload_n (pc' := 534) hF d_LW_law_533 rfl 0 rfl rfl ?_
      refine fx_iload (pc' := 536) hF d_LW_law_534 4 rfl rfl ?_
      refine fx_iconst (pc' := 537) hF (v := (1 : Int32)) d_LW_law_536 rfl rfl ?_
      refine fx_iadd (pc' := 538) hF d_LW_law_537 rfl ?_
      refine fx_sld (pc' := 539) hF hX hbl hbA hin1 d_LW_law_538 rfl ?_
      refine fx_aload_n (pc' := 540) hF d_LW_law_539 rfl 0 rfl rfl ?_
      refine fx_iload (pc' := 542) hF d_LW_law_540 4 rfl rfl ?_
      refine fx_iconst (pc' := 543) hF (v := (2 : Int32)) d_LW_law_542 rfl rfl ?_
      refine fx_iadd (pc' := 544) hF d_LW_law_543 rfl ?_
      refine fx_sld (pc' := 545) hF hX hbl hbA hin2 d_LW_law_544 rfl ?_
      refine fx_callVf (pc' := 548) (As := [.int (xs (nI a + 1).toNatClampNeg), .int (xs (nI a + 2).toNatClampNeg)]) (st := []) hCX hN hA (fw_stays_and (fw_Wd_stays hXM) (lw_o_stays hqX)) hkX (by decide) rfl (ct_FL_has l D aC gX nX KX I 0 (xs (nI a + 1).toNatClampNeg) (xs (nI a + 2).toNatClampNeg) (r, I1) hnX hkX hf) (cwV 2 hF.2.2.2.2 (lw_gV hG wl_2_205 wl_2_206 wl_2_207 wq_1_1 wl_2_208) rfl rfl rfl ⟨rfl, by decide +kernel, by decide +kernel, by decide +kernel⟩ ⟨Nat.le_of_ble_eq_true rfl, Nat.le_of_ble_eq_true rfl⟩) hcs rfl rfl (Nat.le_of_ble_eq_true rfl) d_LW_law_545 rfl ?_
      refine fx_aload_n (pc' := 549) hF d_LW_law_548 rfl 2 rfl rfl ?_
      refine fx_aload_n (pc' := 550) hF d_LW_law_549 rfl 0 rfl rfl ?_
      refine fx_iload (pc' := 552) hF d_LW_law_550 4 rfl rfl ?_
      refine fx_iconst (pc' := 553) hF (v := (1 : Int32)) d_LW_law_552 rfl rfl ?_
      refine fx_iadd (pc' := 554) hF d_LW_law_553 rfl ?_
      refine fx_sld (pc' := 555) hF hX hbl hbA hin1 d_LW_law_554 rfl ?_
      refine fx_aload_n (pc' := 556) hF d_LW_law_555 rfl 0 rfl rfl ?_
      refine fx_iload (pc' := 558) hF d_LW_law_556 4 rfl rfl ?_
      refine fx_iconst (pc' := 559) hF (v := (2 : Int32)) d_LW_law_558 rfl rfl ?_
      refine fx_iadd (pc' := 560) hF d_LW_law_559 rfl ?_
      refine fx_sld (pc' := 561) hF hX hbl hbA hin2 d_LW_law_560 rfl ?_
      refine fx_wd (Wd' := fun H => fw_Wd D aC A gM nM KM J H ∧ (fw_Wd D aC A gX nX KX I1 H ∧ lw_o aC q z H)) (fun H h => ⟨h.2.1, h.1, h.2.2⟩) ?_
      refine fx_callVf (pc' := 564) (As := [.int (xs (nI a + 1).toNatClampNeg), .int (xs (nI a + 2).toNatClampNeg)]) (st := [.int r]) hCM hN hA (fw_stays_and (fw_Wd_stays hMX) (lw_o_stays hqM)) hkM (by decide) rfl (ct_MD_has l D aC gM nM KM J 0 (xs (nI a + 1).toNatClampNeg) (xs (nI a + 2).toNatClampNeg) (r, J1) hnM hkM hg) (cwV 2 hF.2.2.2.2 (lw_gV hG wl_4_79 wl_4_80 wl_4_81 wq_1_8 wl_4_82) rfl rfl rfl ⟨rfl, by decide +kernel, by decide +kernel, by decide +kernel⟩ ⟨Nat.le_of_ble_eq_true rfl, Nat.le_of_ble_eq_true rfl⟩) hcs rfl rfl (Nat.le_of_ble_eq_true rfl) d_LW_law_561 rfl ?_
      refine fx_wd (Wd' := fun H => fw_Wd D aC A gX nX KX I1 H ∧ (fw_Wd D aC A gM nM KM J1 H ∧ lw_o aC q z H)) (fun H h => ⟨h.2.1, h.1, h.2.2⟩) ?_
      refine fx_icmp_eq hF (tgt := 737) (pc' := 567) d_LW_law_564 rfl rfl (fun _ => ?_) (fun z9 => absurd rfl z9)
      refine fx_iinc (pc' := 740) hF (v := nI (a + 3)) (lv' := [(4, .int (nI (a + 3))), (0, .ref b), (1, .ref (gX 0)), (2, .ref (gM 0)), (3, .ref q)]) d_LW_law_737 4 rfl (nI_add a 3) (by decide) rfl rfl ?_
      refine fx_goto hF (tgt := 53) d_LW_law_740 rfl ?_
      refine fx_lv [1, 2, 3, 4, 0] rfl ?_
      exact ih (a + 3) I1 J1 z cells slots hR1 (by omega) (by omega) (by omega) (by omega)
    have case14 : xs (nI a).toNatClampNeg &&& 31 = (14 : Int32) → fw_H p l e room_1 s m #[Value.ref b] below meth c cells slots (lw_Z below #[Value.ref b] s) 7 A (fun H => fw_Wd D aC A gX nX KX I H ∧ (fw_Wd D aC A gM nM KM J H ∧ lw_o aC q z H)) 569 [(0, .ref b), (1, .ref (gX 0)), (2, .ref (gM 0)), (3, .ref q), (4, .int (nI a))] [] := by
      intro _
      obtain ⟨r, I1, J1, hf, hg, hR1⟩ := hops.2.2.2.2.2.2.2.2.2.2.2.2.2.1 (xs (nI a + 1).toNatClampNeg) I J hR
      refine fx_aload_n (pc' := 570) hF d_LW_law_569 rfl 1 rfl rfl ?_
      refine fx_aload_n (pc' := 571) hF d_LW_law_570 rfl 0 rfl rfl ?_
      refine fx_iload (pc' := 573) hF d_LW_law_571 4 rfl rfl ?_
      refine fx_iconst (pc' := 574) hF (v := (1 : Int32)) d_LW_law_573 rfl rfl ?_
      refine fx_iadd (pc' := 575) hF d_LW_law_574 rfl ?_
      refine fx_sld (pc' := 576) hF hX hbl hbA hin1 d_LW_law_575 rfl ?_
      refine fx_callVf (pc' := 579) (As := [.int (xs (nI a + 1).toNatClampNeg)]) (st := []) hCX hN hA (fw_stays_and (fw_Wd_stays hXM) (lw_o_stays hqX)) hkX (by decide) rfl (ct_FL_writer l D aC gX nX KX I 0 (xs (nI a + 1).toNatClampNeg) (r, I1) hnX hkX hf) (cwV 1 hF.2.2.2.2 (lw_gV hG wl_2_30 wl_2_31 wl_2_32 wq_1_1 wl_2_33) rfl rfl rfl ⟨rfl, by decide +kernel, by decide +kernel, by decide +kernel⟩ ⟨Nat.le_of_ble_eq_true rfl, Nat.le_of_ble_eq_true rfl⟩) hcs rfl rfl (Nat.le_of_ble_eq_true rfl) d_LW_law_576 rfl ?_
      refine fx_aload_n (pc' := 580) hF d_LW_law_579 rfl 2 rfl rfl ?_
      refine fx_aload_n (pc' := 581) hF d_LW_law_580 rfl 0 rfl rfl ?_
      refine fx_iload (pc' := 583) hF d_LW_law_581 4 rfl rfl ?_
      refine fx_iconst (pc' := 584) hF (v := (1 : Int32)) d_LW_law_583 rfl rfl ?_
      refine fx_iadd (pc' := 585) hF d_LW_law_584 rfl ?_
      refine fx_sld (pc' := 586) hF hX hbl hbA hin1 d_LW_law_585 rfl ?_
      refine fx_wd (Wd' := fun H => fw_Wd D aC A gM nM KM J H ∧ (fw_Wd D aC A gX nX KX I1 H ∧ lw_o aC q z H)) (fun H h => ⟨h.2.1, h.1, h.2.2⟩) ?_
      refine fx_callVf (pc' := 589) (As := [.int (xs (nI a + 1).toNatClampNeg)]) (st := [.int r]) hCM hN hA (fw_stays_and (fw_Wd_stays hMX) (lw_o_stays hqM)) hkM (by decide) rfl (ct_MD_writer l D aC gM nM KM J 0 (xs (nI a + 1).toNatClampNeg) (r, J1) hnM hkM hg) (cwV 1 hF.2.2.2.2 (lw_gV hG wl_4_83 wl_4_84 wl_4_85 wq_1_8 wl_4_86) rfl rfl rfl ⟨rfl, by decide +kernel, by decide +kernel, by decide +kernel⟩ ⟨Nat.le_of_ble_eq_true rfl, Nat.le_of_ble_eq_true rfl⟩) hcs rfl rfl (Nat.le_of_ble_eq_true rfl) d_LW_law_586 rfl ?_
      refine fx_wd (Wd' := fun H => fw_Wd D aC A gX nX KX I1 H ∧ (fw_Wd D aC A gM nM KM J1 H ∧ lw_o aC q z H)) (fun H h => ⟨h.2.1, h.1, h.2.2⟩) ?_
      refine fx_icmp_eq hF (tgt := 737) (pc' := 592) d_LW_law_589 rfl rfl (fun _ => ?_) (fun z9 => absurd rfl z9)
      refine fx_iinc (pc' := 740) hF (v := nI (a + 3)) (lv' := [(4, .int (nI (a + 3))), (0, .ref b), (1, .ref (gX 0)), (2, .ref (gM 0)), (3, .ref q)]) d_LW_law_737 4 rfl (nI_add a 3) (by decide) rfl rfl ?_
      refine fx_goto hF (tgt := 53) d_LW_law_740 rfl ?_
      refine fx_lv [1, 2, 3, 4, 0] rfl ?_
      exact ih (a + 3) I1 J1 z cells slots hR1 (by omega) (by omega) (by omega) (by omega)
    have case15 : xs (nI a).toNatClampNeg &&& 31 = (15 : Int32) → fw_H p l e room_1 s m #[Value.ref b] below meth c cells slots (lw_Z below #[Value.ref b] s) 7 A (fun H => fw_Wd D aC A gX nX KX I H ∧ (fw_Wd D aC A gM nM KM J H ∧ lw_o aC q z H)) 594 [(0, .ref b), (1, .ref (gX 0)), (2, .ref (gM 0)), (3, .ref q), (4, .int (nI a))] [] := by
      intro _
      obtain ⟨r, I1, J1, hf, hg, hR1⟩ := hops.2.2.2.2.2.2.2.2.2.2.2.2.2.2.1 (xs (nI a + 1).toNatClampNeg) I J hR
      refine fx_aload_n (pc' := 595) hF d_LW_law_594 rfl 1 rfl rfl ?_
      refine fx_aload_n (pc' := 596) hF d_LW_law_595 rfl 0 rfl rfl ?_
      refine fx_iload (pc' := 598) hF d_LW_law_596 4 rfl rfl ?_
      refine fx_iconst (pc' := 599) hF (v := (1 : Int32)) d_LW_law_598 rfl rfl ?_
      refine fx_iadd (pc' := 600) hF d_LW_law_599 rfl ?_
      refine fx_sld (pc' := 601) hF hX hbl hbA hin1 d_LW_law_600 rfl ?_
      refine fx_callVf (pc' := 604) (As := [.int (xs (nI a + 1).toNatClampNeg)]) (st := []) hCX hN hA (fw_stays_and (fw_Wd_stays hXM) (lw_o_stays hqX)) hkX (by decide) rfl (ct_FL_answers l D aC gX nX KX I 0 (xs (nI a + 1).toNatClampNeg) (r, I1) hnX hkX hf) (cwV 1 hF.2.2.2.2 (lw_gV hG wl_2_34 wl_2_35 wl_2_36 wq_1_1 wl_2_37) rfl rfl rfl ⟨rfl, by decide +kernel, by decide +kernel, by decide +kernel⟩ ⟨Nat.le_of_ble_eq_true rfl, Nat.le_of_ble_eq_true rfl⟩) hcs rfl rfl (Nat.le_of_ble_eq_true rfl) d_LW_law_601 rfl ?_
      refine fx_aload_n (pc' := 605) hF d_LW_law_604 rfl 2 rfl rfl ?_
      refine fx_aload_n (pc' := 606) hF d_LW_law_605 rfl 0 rfl rfl ?_
      refine fx_iload (pc' := 608) hF d_LW_law_606 4 rfl rfl ?_
      refine fx_iconst (pc' := 609) hF (v := (1 : Int32)) d_LW_law_608 rfl rfl ?_
      refine fx_iadd (pc' := 610) hF d_LW_law_609 rfl ?_
      refine fx_sld (pc' := 611) hF hX hbl hbA hin1 d_LW_law_610 rfl ?_
      refine fx_wd (Wd' := fun H => fw_Wd D aC A gM nM KM J H ∧ (fw_Wd D aC A gX nX KX I1 H ∧ lw_o aC q z H)) (fun H h => ⟨h.2.1, h.1, h.2.2⟩) ?_
      refine fx_callVf (pc' := 614) (As := [.int (xs (nI a + 1).toNatClampNeg)]) (st := [.int r]) hCM hN hA (fw_stays_and (fw_Wd_stays hMX) (lw_o_stays hqM)) hkM (by decide) rfl (ct_MD_answers l D aC gM nM KM J 0 (xs (nI a + 1).toNatClampNeg) (r, J1) hnM hkM hg) (cwV 1 hF.2.2.2.2 (lw_gV hG wl_4_87 wl_4_88 wl_4_89 wq_1_8 wl_4_90) rfl rfl rfl ⟨rfl, by decide +kernel, by decide +kernel, by decide +kernel⟩ ⟨Nat.le_of_ble_eq_true rfl, Nat.le_of_ble_eq_true rfl⟩) hcs rfl rfl (Nat.le_of_ble_eq_true rfl) d_LW_law_611 rfl ?_
      refine fx_wd (Wd' := fun H => fw_Wd D aC A gX nX KX I1 H ∧ (fw_Wd D aC A gM nM KM J1 H ∧ lw_o aC q z H)) (fun H h => ⟨h.2.1, h.1, h.2.2⟩) ?_
      refine fx_icmp_eq hF (tgt := 737) (pc' := 617) d_LW_law_614 rfl rfl (fun _ => ?_) (fun z9 => absurd rfl z9)
      refine fx_iinc (pc' := 740) hF (v := nI (a + 3)) (lv' := [(4, .int (nI (a + 3))), (0, .ref b), (1, .ref (gX 0)), (2, .ref (gM 0)), (3, .ref q)]) d_LW_law_737 4 rfl (nI_add a 3) (by decide) rfl rfl ?_
      refine fx_goto hF (tgt := 53) d_LW_law_740 rfl ?_
      refine fx_lv [1, 2, 3, 4, 0] rfl ?_
      exact ih (a + 3) I1 J1 z cells slots hR1 (by omega) (by omega) (by omega) (by omega)
    have case16 : xs (nI a).toNatClampNeg &&& 31 = (16 : Int32) → fw_H p l e room_1 s m #[Value.ref b] below meth c cells slots (lw_Z below #[Value.ref b] s) 7 A (fun H => fw_Wd D aC A gX nX KX I H ∧ (fw_Wd D aC A gM nM KM J H ∧ lw_o aC q z H)) 619 [(0, .ref b), (1, .ref (gX 0)), (2, .ref (gM 0)), (3, .ref q), (4, .int (nI a))] [] := by
      intro _
      obtain ⟨r, I1, J1, hf, hg, hR1⟩ := hops.2.2.2.2.2.2.2.2.2.2.2.2.2.2.2.1 (xs (nI a + 1).toNatClampNeg) (xs (nI a + 2).toNatClampNeg) I J hR
      refine fx_aload_n (pc' := 620) hF d_LW_law_619 rfl 1 rfl rfl ?_
      refine fx_aload_n (pc' := 621) hF d_LW_law_620 rfl 0 rfl rfl ?_
      refine fx_iload (pc' := 623) hF d_LW_law_621 4 rfl rfl ?_
      refine fx_iconst (pc' := 624) hF (v := (1 : Int32)) d_LW_law_623 rfl rfl ?_
      refine fx_iadd (pc' := 625) hF d_LW_law_624 rfl ?_
      refine fx_sld (pc' := 626) hF hX hbl hbA hin1 d_LW_law_625 rfl ?_
      refine fx_aload_n (pc' := 627) hF d_LW_law_626 rfl 0 rfl rfl ?_
      refine fx_iload (pc' := 629) hF d_LW_law_627 4 rfl rfl ?_
      refine fx_iconst (pc' := 630) hF (v := (2 : Int32)) d_LW_law_629 rfl rfl ?_
      refine fx_iadd (pc' := 631) hF d_LW_law_630 rfl ?_
      refine fx_sld (pc' := 632) hF hX hbl hbA hin2 d_LW_law_631 rfl ?_
      refine fx_callVf (pc' := 635) (As := [.int (xs (nI a + 1).toNatClampNeg), .int (xs (nI a + 2).toNatClampNeg)]) (st := []) hCX hN hA (fw_stays_and (fw_Wd_stays hXM) (lw_o_stays hqX)) hkX (by decide) rfl (ct_FL_recoverer l D aC gX nX KX I 0 (xs (nI a + 1).toNatClampNeg) (xs (nI a + 2).toNatClampNeg) (r, I1) hnX hkX hf) (cwV 2 hF.2.2.2.2 (lw_gV hG wl_2_69 wl_2_70 wl_2_71 wq_1_1 wl_2_72) rfl rfl rfl ⟨rfl, by decide +kernel, by decide +kernel, by decide +kernel⟩ ⟨Nat.le_of_ble_eq_true rfl, Nat.le_of_ble_eq_true rfl⟩) hcs rfl rfl (Nat.le_of_ble_eq_true rfl) d_LW_law_632 rfl ?_
      refine fx_aload_n (pc' := 636) hF d_LW_law_635 rfl 2 rfl rfl ?_
      refine fx_aload_n (pc' := 637) hF d_LW_law_636 rfl 0 rfl rfl ?_
      refine fx_iload (pc' := 639) hF d_LW_law_637 4 rfl rfl ?_
      refine fx_iconst (pc' := 640) hF (v := (1 : Int32)) d_LW_law_639 rfl rfl ?_
      refine fx_iadd (pc' := 641) hF d_LW_law_640 rfl ?_
      refine fx_sld (pc' := 642) hF hX hbl hbA hin1 d_LW_law_641 rfl ?_
      refine fx_aload_n (pc' := 643) hF d_LW_law_642 rfl 0 rfl rfl ?_
      refine fx_iload (pc' := 645) hF d_LW_law_643 4 rfl rfl ?_
      refine fx_iconst (pc' := 646) hF (v := (2 : Int32)) d_LW_law_645 rfl rfl ?_
      refine fx_iadd (pc' := 647) hF d_LW_law_646 rfl ?_
      refine fx_sld (pc' := 648) hF hX hbl hbA hin2 d_LW_law_647 rfl ?_
      refine fx_wd (Wd' := fun H => fw_Wd D aC A gM nM KM J H ∧ (fw_Wd D aC A gX nX KX I1 H ∧ lw_o aC q z H)) (fun H h => ⟨h.2.1, h.1, h.2.2⟩) ?_
      refine fx_callVf (pc' := 651) (As := [.int (xs (nI a + 1).toNatClampNeg), .int (xs (nI a + 2).toNatClampNeg)]) (st := [.int r]) hCM hN hA (fw_stays_and (fw_Wd_stays hMX) (lw_o_stays hqM)) hkM (by decide) rfl (ct_MD_recoverer l D aC gM nM KM J 0 (xs (nI a + 1).toNatClampNeg) (xs (nI a + 2).toNatClampNeg) (r, J1) hnM hkM hg) (cwV 2 hF.2.2.2.2 (lw_gV hG wl_4_91 wl_4_92 wl_4_93 wq_1_8 wl_4_94) rfl rfl rfl ⟨rfl, by decide +kernel, by decide +kernel, by decide +kernel⟩ ⟨Nat.le_of_ble_eq_true rfl, Nat.le_of_ble_eq_true rfl⟩) hcs rfl rfl (Nat.le_of_ble_eq_true rfl) d_LW_law_648 rfl ?_
      refine fx_wd (Wd' := fun H => fw_Wd D aC A gX nX KX I1 H ∧ (fw_Wd D aC A gM nM KM J1 H ∧ lw_o aC q z H)) (fun H h => ⟨h.2.1, h.1, h.2.2⟩) ?_
      refine fx_icmp_eq hF (tgt := 737) (pc' := 654) d_LW_law_651 rfl rfl (fun _ => ?_) (fun z9 => absurd rfl z9)
      refine fx_iinc (pc' := 740) hF (v := nI (a + 3)) (lv' := [(4, .int (nI (a + 3))), (0, .ref b), (1, .ref (gX 0)), (2, .ref (gM 0)), (3, .ref q)]) d_LW_law_737 4 rfl (nI_add a 3) (by decide) rfl rfl ?_
      refine fx_goto hF (tgt := 53) d_LW_law_740 rfl ?_
      refine fx_lv [1, 2, 3, 4, 0] rfl ?_
      exact ih (a + 3) I1 J1 z cells slots hR1 (by omega) (by omega) (by omega) (by omega)
    have case17 : xs (nI a).toNatClampNeg &&& 31 = (17 : Int32) → fw_H p l e room_1 s m #[Value.ref b] below meth c cells slots (lw_Z below #[Value.ref b] s) 7 A (fun H => fw_Wd D aC A gX nX KX I H ∧ (fw_Wd D aC A gM nM KM J H ∧ lw_o aC q z H)) 656 [(0, .ref b), (1, .ref (gX 0)), (2, .ref (gM 0)), (3, .ref q), (4, .int (nI a))] [] := by
      intro _
      obtain ⟨r, I1, J1, hf, hg, hR1⟩ := hops.2.2.2.2.2.2.2.2.2.2.2.2.2.2.2.2.1 (xs (nI a + 1).toNatClampNeg) I J hR
      refine fx_aload_n (pc' := 657) hF d_LW_law_656 rfl 1 rfl rfl ?_
      refine fx_aload_n (pc' := 658) hF d_LW_law_657 rfl 0 rfl rfl ?_
      refine fx_iload (pc' := 660) hF d_LW_law_658 4 rfl rfl ?_
      refine fx_iconst (pc' := 661) hF (v := (1 : Int32)) d_LW_law_660 rfl rfl ?_
      refine fx_iadd (pc' := 662) hF d_LW_law_661 rfl ?_
      refine fx_sld (pc' := 663) hF hX hbl hbA hin1 d_LW_law_662 rfl ?_
      refine fx_callVf (pc' := 666) (As := [.int (xs (nI a + 1).toNatClampNeg)]) (st := []) hCX hN hA (fw_stays_and (fw_Wd_stays hXM) (lw_o_stays hqX)) hkX (by decide) rfl (ct_FL_ledger l D aC gX nX KX I 0 (xs (nI a + 1).toNatClampNeg) (r, I1) hnX hkX hf) (cwV 1 hF.2.2.2.2 (lw_gV hG wl_2_212 wl_2_213 wl_2_214 wq_1_1 wl_2_215) rfl rfl rfl ⟨rfl, by decide +kernel, by decide +kernel, by decide +kernel⟩ ⟨Nat.le_of_ble_eq_true rfl, Nat.le_of_ble_eq_true rfl⟩) hcs rfl rfl (Nat.le_of_ble_eq_true rfl) d_LW_law_663 rfl ?_
      refine fx_aload_n (pc' := 667) hF d_LW_law_666 rfl 2 rfl rfl ?_
      refine fx_aload_n (pc' := 668) hF d_LW_law_667 rfl 0 rfl rfl ?_
      refine fx_iload (pc' := 670) hF d_LW_law_668 4 rfl rfl ?_
      refine fx_iconst (pc' := 671) hF (v := (1 : Int32)) d_LW_law_670 rfl rfl ?_
      refine fx_iadd (pc' := 672) hF d_LW_law_671 rfl ?_
      refine fx_sld (pc' := 673) hF hX hbl hbA hin1 d_LW_law_672 rfl ?_
      refine fx_wd (Wd' := fun H => fw_Wd D aC A gM nM KM J H ∧ (fw_Wd D aC A gX nX KX I1 H ∧ lw_o aC q z H)) (fun H h => ⟨h.2.1, h.1, h.2.2⟩) ?_
      refine fx_callVf (pc' := 676) (As := [.int (xs (nI a + 1).toNatClampNeg)]) (st := [.int r]) hCM hN hA (fw_stays_and (fw_Wd_stays hMX) (lw_o_stays hqM)) hkM (by decide) rfl (ct_MD_ledger l D aC gM nM KM J 0 (xs (nI a + 1).toNatClampNeg) (r, J1) hnM hkM hg) (cwV 1 hF.2.2.2.2 (lw_gV hG wl_4_95 wl_4_96 wl_4_97 wq_1_8 wl_4_98) rfl rfl rfl ⟨rfl, by decide +kernel, by decide +kernel, by decide +kernel⟩ ⟨Nat.le_of_ble_eq_true rfl, Nat.le_of_ble_eq_true rfl⟩) hcs rfl rfl (Nat.le_of_ble_eq_true rfl) d_LW_law_673 rfl ?_
      refine fx_wd (Wd' := fun H => fw_Wd D aC A gX nX KX I1 H ∧ (fw_Wd D aC A gM nM KM J1 H ∧ lw_o aC q z H)) (fun H h => ⟨h.2.1, h.1, h.2.2⟩) ?_
      refine fx_icmp_eq hF (tgt := 737) (pc' := 679) d_LW_law_676 rfl rfl (fun _ => ?_) (fun z9 => absurd rfl z9)
      refine fx_iinc (pc' := 740) hF (v := nI (a + 3)) (lv' := [(4, .int (nI (a + 3))), (0, .ref b), (1, .ref (gX 0)), (2, .ref (gM 0)), (3, .ref q)]) d_LW_law_737 4 rfl (nI_add a 3) (by decide) rfl rfl ?_
      refine fx_goto hF (tgt := 53) d_LW_law_740 rfl ?_
      refine fx_lv [1, 2, 3, 4, 0] rfl ?_
      exact ih (a + 3) I1 J1 z cells slots hR1 (by omega) (by omega) (by omega) (by omega)
    have case18 : xs (nI a).toNatClampNeg &&& 31 = (18 : Int32) → fw_H p l e room_1 s m #[Value.ref b] below meth c cells slots (lw_Z below #[Value.ref b] s) 7 A (fun H => fw_Wd D aC A gX nX KX I H ∧ (fw_Wd D aC A gM nM KM J H ∧ lw_o aC q z H)) 681 [(0, .ref b), (1, .ref (gX 0)), (2, .ref (gM 0)), (3, .ref q), (4, .int (nI a))] [] := by
      intro _
      obtain ⟨t, w, I1, v, J1, hf, ht, hg, hh1, hwv, hR1⟩ := hops.2.2.2.2.2.2.2.2.2.2.2.2.2.2.2.2.2.2 (xs (nI a + 1).toNatClampNeg) I J hR
      dsimp only at hf hg hh1
      have htg : ∀ t' v', fn_FL_read KX I 0 (xs (nI a + 1).toNatClampNeg) = some (t', v') → t' ≤ 3 := fun t' v' h9 => by
        rw [hf] at h9
        cases h9
        exact ht
      rcases Nat.eq_zero_or_pos t with rfl | hp0
      · have hw9 := hwv rfl
        subst hw9
        have hl9 : fn_LW_read KX I 0 (xs (nI a + 1).toNatClampNeg) z = some (0, I1, w.toInt64) := by
          unfold fn_LW_read
          rw [hf]
        refine fx_aload_n (pc' := 682) hF d_LW_law_681 rfl 1 rfl rfl ?_
        refine fx_aload_n (pc' := 683) hF d_LW_law_682 rfl 0 rfl rfl ?_
        refine fx_iload (pc' := 685) hF d_LW_law_683 4 rfl rfl ?_
        refine fx_iconst (pc' := 686) hF (v := (1 : Int32)) d_LW_law_685 rfl rfl ?_
        refine fx_iadd (pc' := 687) hF d_LW_law_686 rfl ?_
        refine fx_sld (pc' := 688) hF hX hbl hbA hin1 d_LW_law_687 rfl ?_
        refine fx_aload_n (pc' := 689) hF d_LW_law_688 rfl 3 rfl rfl ?_
        refine fx_callSx (pc' := 692) (hh := hh_read) (bytes := b_LW_read) (maxL := 4) (ret := some .int) (na := 3) (As := [.ref (gX 0), .int (xs (nI a + 1).toNatClampNeg), .ref q]) (st := []) hCX hN hT hn1 hAs (lw_stays_x hXM hqM) hAq (ct_LW_read l hst D aC gX nX KX I 0 (xs (nI a + 1).toNatClampNeg) q z (0, I1, w.toInt64) hnX hkX hqX htg hl9) rfl rfl (Nat.le_of_ble_eq_true rfl) (Nat.le_of_ble_eq_true rfl) (lw_gw hTs wl_3_82) List.mem_cons_self (hw _ wl_1_0) (hw _ wl_3_81) (hw _ wl_3_80) ⟨by decide +kernel, by decide +kernel⟩ (by decide +kernel) hcs1 rfl rfl (Nat.le_of_ble_eq_true rfl) d_LW_law_689 rfl ?_
        have hcs := hcs2
        refine fx_istore (pc' := 694) hF (lv' := [(5, .int 0), (0, .ref b), (1, .ref (gX 0)), (2, .ref (gM 0)), (3, .ref q), (4, .int (nI a))]) d_LW_law_692 (by decide) rfl rfl ?_
        refine fx_aload_n (pc' := 695) hF d_LW_law_694 rfl 3 rfl rfl ?_
        refine fx_aload_n (pc' := 696) hF d_LW_law_695 rfl 1 rfl rfl ?_
        refine fx_iload (pc' := 698) hF d_LW_law_696 5 rfl rfl ?_
        refine fx_iconst (pc' := 699) hF (v := (1 : Int32)) d_LW_law_698 rfl rfl ?_
        refine fx_iadd (pc' := 700) hF d_LW_law_699 rfl ?_
        refine fx_sld (pc' := 701) hF hX hbl hbA hin1 d_LW_law_700 rfl ?_
        refine fx_wd (Wd' := fun H => fw_Wd D aC A gM nM KM J H ∧ (fw_Wd D aC A gX nX KX I1 H ∧ lw_o aC q w.toInt64 H)) (fun H h => ⟨h.2.1, h.1, h.2.2⟩) ?_
        refine fx_callVf (pc' := 704) (As := [.int (xs (nI a + 1).toNatClampNeg)]) (st := []) hCM hN hA (fw_stays_and (fw_Wd_stays hMX) (lw_o_stays hqM)) hkM (by decide) rfl (ct_MD_read l D aC gM nM KM J 0 (xs (nI a + 1).toNatClampNeg) (w, J1) hnM hkM hg) (cwV 1 hF.2.2.2.2 (lw_gV hG wl_4_99 wl_4_100 wl_4_101 wq_1_8 wl_4_102) rfl rfl rfl ⟨rfl, by decide +kernel, by decide +kernel, by decide +kernel⟩ ⟨Nat.le_of_ble_eq_true rfl, Nat.le_of_ble_eq_true rfl⟩) hcs rfl rfl (Nat.le_of_ble_eq_true rfl) d_LW_law_701 rfl ?_
        refine fx_wd (Wd' := fun H => fw_Wd D aC A gX nX KX I1 H ∧ (fw_Wd D aC A gM nM KM J1 H ∧ lw_o aC q w.toInt64 H)) (fun H h => ⟨h.2.1, h.1, h.2.2⟩) ?_
        refine fx_istore (pc' := 706) hF (lv' := [(6, .int w), (5, .int 0), (0, .ref b), (1, .ref (gX 0)), (2, .ref (gM 0)), (3, .ref q), (4, .int (nI a))]) d_LW_law_704 (by decide) rfl rfl ?_
        refine fx_aload_n (pc' := 707) hF d_LW_law_706 rfl 4 rfl rfl ?_
        refine fx_wd (Wd' := fun H => fw_Wd D aC A gM nM KM J1 H ∧ (fw_Wd D aC A gX nX KX I1 H ∧ lw_o aC q w.toInt64 H)) (fun H h => ⟨h.2.1, h.1, h.2.2⟩) ?_
        refine fx_callVf (pc' := 710) (As := []) (st := []) hCM hN hA (fw_stays_and (fw_Wd_stays hMX) (lw_o_stays hqM)) hkM (by decide) rfl (ct_MD_thrown l D aC gM nM KM J1 0 (Int32.ofNat 0, J1) hnM hkM hh1) (cwV 0 hF.2.2.2.2 (lw_gV hG wl_3_192 wl_3_193 wl_3_194 wq_1_8 wl_3_195) rfl rfl rfl ⟨rfl, by decide +kernel, by decide +kernel, by decide +kernel⟩ ⟨Nat.le_of_ble_eq_true rfl, Nat.le_of_ble_eq_true rfl⟩) hcs rfl rfl (Nat.le_of_ble_eq_true rfl) d_LW_law_707 rfl ?_
        refine fx_wd (Wd' := fun H => fw_Wd D aC A gX nX KX I1 H ∧ (fw_Wd D aC A gM nM KM J1 H ∧ lw_o aC q w.toInt64 H)) (fun H h => ⟨h.2.1, h.1, h.2.2⟩) ?_
        refine fx_iload (pc' := 712) hF d_LW_law_710 1 rfl rfl ?_
        refine fx_icmp_eq hF (tgt := 717) (pc' := 715) d_LW_law_712 rfl rfl (fun _ => ?_) (fun z9 => absurd rfl z9)
        refine fx_iload (pc' := 719) hF d_LW_law_717 1 rfl rfl ?_
        refine fx_if_ne hF (tgt := 734) (pc' := 722) d_LW_law_719 rfl rfl (fun z9 => absurd rfl z9) (fun _ => ?_)
        refine fx_aload_n (pc' := 723) hF d_LW_law_722 rfl 5 rfl rfl ?_
        refine fx_iconst (pc' := 724) hF (v := (0 : Int32)) d_LW_law_723 rfl rfl ?_
        refine fx_laldO (pc' := 725) hCX (fun H h => h.2.2) d_LW_law_724 rfl ?_
        refine fx_iload (pc' := 727) hF d_LW_law_725 0 rfl rfl ?_
        refine fx_i2l (pc' := 728) hF d_LW_law_727 rfl ?_
        refine fx_lcmp (pc' := 729) hF d_LW_law_728 rfl ?_
        refine fx_if_eq hF (tgt := 734) (pc' := 732) d_LW_law_729 rfl rfl (fun _ => ?_) (fun z9 => absurd rfl z9)
        refine fx_goto hF (tgt := 737) d_LW_law_734 rfl ?_
        refine fx_iinc (pc' := 740) hF (v := nI (a + 3)) (lv' := [(4, .int (nI (a + 3))), (6, .int w), (5, .int 0), (0, .ref b), (1, .ref (gX 0)), (2, .ref (gM 0)), (3, .ref q)]) d_LW_law_737 6 rfl (nI_add a 3) (by decide) rfl rfl ?_
        refine fx_goto hF (tgt := 53) d_LW_law_740 rfl ?_
        refine fx_lv [3, 4, 5, 6, 0] rfl ?_
        exact ih (a + 3) I1 J1 w.toInt64 (cells + 1) (slots + 6) hR1 (by omega) (by omega) (by omega) (by omega)
      · have hl9 : fn_LW_read KX I 0 (xs (nI a + 1).toNatClampNeg) z = some (Int32.ofNat t, I1, z) := by
          obtain ⟨t9, rfl⟩ : ∃ t9, t = t9 + 1 := ⟨t - 1, by omega⟩
          unfold fn_LW_read
          rw [hf]
        refine fx_aload_n (pc' := 682) hF d_LW_law_681 rfl 1 rfl rfl ?_
        refine fx_aload_n (pc' := 683) hF d_LW_law_682 rfl 0 rfl rfl ?_
        refine fx_iload (pc' := 685) hF d_LW_law_683 4 rfl rfl ?_
        refine fx_iconst (pc' := 686) hF (v := (1 : Int32)) d_LW_law_685 rfl rfl ?_
        refine fx_iadd (pc' := 687) hF d_LW_law_686 rfl ?_
        refine fx_sld (pc' := 688) hF hX hbl hbA hin1 d_LW_law_687 rfl ?_
        refine fx_aload_n (pc' := 689) hF d_LW_law_688 rfl 3 rfl rfl ?_
        refine fx_callSx (pc' := 692) (hh := hh_read) (bytes := b_LW_read) (maxL := 4) (ret := some .int) (na := 3) (As := [.ref (gX 0), .int (xs (nI a + 1).toNatClampNeg), .ref q]) (st := []) hCX hN hT hn1 hAs (lw_stays_x hXM hqM) hAq (ct_LW_read l hst D aC gX nX KX I 0 (xs (nI a + 1).toNatClampNeg) q z ((Int32.ofNat t), I1, z) hnX hkX hqX htg hl9) rfl rfl (Nat.le_of_ble_eq_true rfl) (Nat.le_of_ble_eq_true rfl) (lw_gw hTs wl_3_82) List.mem_cons_self (hw _ wl_1_0) (hw _ wl_3_81) (hw _ wl_3_80) ⟨by decide +kernel, by decide +kernel⟩ (by decide +kernel) hcs1 rfl rfl (Nat.le_of_ble_eq_true rfl) d_LW_law_689 rfl ?_
        have hcs := hcs2
        refine fx_istore (pc' := 694) hF (lv' := [(5, .int (Int32.ofNat t)), (0, .ref b), (1, .ref (gX 0)), (2, .ref (gM 0)), (3, .ref q), (4, .int (nI a))]) d_LW_law_692 (by decide) rfl rfl ?_
        refine fx_aload_n (pc' := 695) hF d_LW_law_694 rfl 3 rfl rfl ?_
        refine fx_aload_n (pc' := 696) hF d_LW_law_695 rfl 1 rfl rfl ?_
        refine fx_iload (pc' := 698) hF d_LW_law_696 5 rfl rfl ?_
        refine fx_iconst (pc' := 699) hF (v := (1 : Int32)) d_LW_law_698 rfl rfl ?_
        refine fx_iadd (pc' := 700) hF d_LW_law_699 rfl ?_
        refine fx_sld (pc' := 701) hF hX hbl hbA hin1 d_LW_law_700 rfl ?_
        refine fx_wd (Wd' := fun H => fw_Wd D aC A gM nM KM J H ∧ (fw_Wd D aC A gX nX KX I1 H ∧ lw_o aC q z H)) (fun H h => ⟨h.2.1, h.1, h.2.2⟩) ?_
        refine fx_callVf (pc' := 704) (As := [.int (xs (nI a + 1).toNatClampNeg)]) (st := []) hCM hN hA (fw_stays_and (fw_Wd_stays hMX) (lw_o_stays hqM)) hkM (by decide) rfl (ct_MD_read l D aC gM nM KM J 0 (xs (nI a + 1).toNatClampNeg) (v, J1) hnM hkM hg) (cwV 1 hF.2.2.2.2 (lw_gV hG wl_4_99 wl_4_100 wl_4_101 wq_1_8 wl_4_102) rfl rfl rfl ⟨rfl, by decide +kernel, by decide +kernel, by decide +kernel⟩ ⟨Nat.le_of_ble_eq_true rfl, Nat.le_of_ble_eq_true rfl⟩) hcs rfl rfl (Nat.le_of_ble_eq_true rfl) d_LW_law_701 rfl ?_
        refine fx_wd (Wd' := fun H => fw_Wd D aC A gX nX KX I1 H ∧ (fw_Wd D aC A gM nM KM J1 H ∧ lw_o aC q z H)) (fun H h => ⟨h.2.1, h.1, h.2.2⟩) ?_
        refine fx_istore (pc' := 706) hF (lv' := [(6, .int v), (5, .int (Int32.ofNat t)), (0, .ref b), (1, .ref (gX 0)), (2, .ref (gM 0)), (3, .ref q), (4, .int (nI a))]) d_LW_law_704 (by decide) rfl rfl ?_
        refine fx_aload_n (pc' := 707) hF d_LW_law_706 rfl 4 rfl rfl ?_
        refine fx_wd (Wd' := fun H => fw_Wd D aC A gM nM KM J1 H ∧ (fw_Wd D aC A gX nX KX I1 H ∧ lw_o aC q z H)) (fun H h => ⟨h.2.1, h.1, h.2.2⟩) ?_
        refine fx_callVf (pc' := 710) (As := []) (st := []) hCM hN hA (fw_stays_and (fw_Wd_stays hMX) (lw_o_stays hqM)) hkM (by decide) rfl (ct_MD_thrown l D aC gM nM KM J1 0 (Int32.ofNat t, J1) hnM hkM hh1) (cwV 0 hF.2.2.2.2 (lw_gV hG wl_3_192 wl_3_193 wl_3_194 wq_1_8 wl_3_195) rfl rfl rfl ⟨rfl, by decide +kernel, by decide +kernel, by decide +kernel⟩ ⟨Nat.le_of_ble_eq_true rfl, Nat.le_of_ble_eq_true rfl⟩) hcs rfl rfl (Nat.le_of_ble_eq_true rfl) d_LW_law_707 rfl ?_
        refine fx_wd (Wd' := fun H => fw_Wd D aC A gX nX KX I1 H ∧ (fw_Wd D aC A gM nM KM J1 H ∧ lw_o aC q z H)) (fun H h => ⟨h.2.1, h.1, h.2.2⟩) ?_
        refine fx_iload (pc' := 712) hF d_LW_law_710 1 rfl rfl ?_
        refine fx_icmp_eq hF (tgt := 717) (pc' := 715) d_LW_law_712 rfl rfl (fun _ => ?_) (fun z9 => absurd rfl z9)
        refine fx_iload (pc' := 719) hF d_LW_law_717 1 rfl rfl ?_
        refine fx_if_ne hF (tgt := 734) (pc' := 722) d_LW_law_719 rfl rfl (fun _ => ?_) (fun z9 => absurd z9 (lw_ne hp0 (by omega)))
        refine fx_goto hF (tgt := 737) d_LW_law_734 rfl ?_
        refine fx_iinc (pc' := 740) hF (v := nI (a + 3)) (lv' := [(4, .int (nI (a + 3))), (6, .int v), (5, .int (Int32.ofNat t)), (0, .ref b), (1, .ref (gX 0)), (2, .ref (gM 0)), (3, .ref q)]) d_LW_law_737 6 rfl (nI_add a 3) (by decide) rfl rfl ?_
        refine fx_goto hF (tgt := 53) d_LW_law_740 rfl ?_
        refine fx_lv [3, 4, 5, 6, 0] rfl ?_
        exact ih (a + 3) I1 J1 z (cells + 1) (slots + 6) hR1 (by omega) (by omega) (by omega) (by omega)
    refine fx_aload_n (pc' := 63) hF d_LW_law_62 rfl 0 rfl rfl ?_
    refine fx_iload (pc' := 65) hF d_LW_law_63 4 rfl rfl ?_
    refine fx_sld (pc' := 66) hF hX hbl hbA hin0 d_LW_law_65 rfl ?_
    refine fx_bipush (pc' := 68) hF (v := (31 : Int32)) d_LW_law_66 rfl rfl ?_
    refine fx_iand (pc' := 69) hF d_LW_law_68 rfl ?_
    by_cases q0 : xs (nI a).toNatClampNeg &&& 31 = (0 : Int32)
    · refine fx_swIn hF (tgt := 160) d_LW_law_69 (by rw [q0]; decide) (by rw [q0]; decide) (by rw [q0]; rfl) rfl ?_
      exact case0 q0
    · skip
      by_cases q1 : xs (nI a).toNatClampNeg &&& 31 = (1 : Int32)
      · refine fx_swIn hF (tgt := 216) d_LW_law_69 (by rw [q1]; decide) (by rw [q1]; decide) (by rw [q1]; rfl) rfl ?_
        exact case1 q1
      · skip
        by_cases q2 : xs (nI a).toNatClampNeg &&& 31 = (2 : Int32)
        · refine fx_swIn hF (tgt := 241) d_LW_law_69 (by rw [q2]; decide) (by rw [q2]; decide) (by rw [q2]; rfl) rfl ?_
          exact case2 q2
        · skip
          by_cases q3 : xs (nI a).toNatClampNeg &&& 31 = (3 : Int32)
          · refine fx_swIn hF (tgt := 254) d_LW_law_69 (by rw [q3]; decide) (by rw [q3]; decide) (by rw [q3]; rfl) rfl ?_
            exact case3 q3
          · skip
            by_cases q4 : xs (nI a).toNatClampNeg &&& 31 = (4 : Int32)
            · refine fx_swIn hF (tgt := 267) d_LW_law_69 (by rw [q4]; decide) (by rw [q4]; decide) (by rw [q4]; rfl) rfl ?_
              exact case4 q4
            · skip
              by_cases q5 : xs (nI a).toNatClampNeg &&& 31 = (5 : Int32)
              · refine fx_swIn hF (tgt := 292) d_LW_law_69 (by rw [q5]; decide) (by rw [q5]; decide) (by rw [q5]; rfl) rfl ?_
                exact case5 q5
              · skip
                by_cases q6 : xs (nI a).toNatClampNeg &&& 31 = (6 : Int32)
                · refine fx_swIn hF (tgt := 317) d_LW_law_69 (by rw [q6]; decide) (by rw [q6]; decide) (by rw [q6]; rfl) rfl ?_
                  exact case6 q6
                · skip
                  by_cases q7 : xs (nI a).toNatClampNeg &&& 31 = (7 : Int32)
                  · refine fx_swIn hF (tgt := 342) d_LW_law_69 (by rw [q7]; decide) (by rw [q7]; decide) (by rw [q7]; rfl) rfl ?_
                    exact case7 q7
                  · skip
                    by_cases q8 : xs (nI a).toNatClampNeg &&& 31 = (8 : Int32)
                    · refine fx_swIn hF (tgt := 367) d_LW_law_69 (by rw [q8]; decide) (by rw [q8]; decide) (by rw [q8]; rfl) rfl ?_
                      exact case8 q8
                    · skip
                      by_cases q9 : xs (nI a).toNatClampNeg &&& 31 = (9 : Int32)
                      · refine fx_swIn hF (tgt := 392) d_LW_law_69 (by rw [q9]; decide) (by rw [q9]; decide) (by rw [q9]; rfl) rfl ?_
                        exact case9 q9
                      · skip
                        by_cases q10 : xs (nI a).toNatClampNeg &&& 31 = (10 : Int32)
                        · refine fx_swIn hF (tgt := 405) d_LW_law_69 (by rw [q10]; decide) (by rw [q10]; decide) (by rw [q10]; rfl) rfl ?_
                          exact case10 q10
                        · skip
                          by_cases q11 : xs (nI a).toNatClampNeg &&& 31 = (11 : Int32)
                          · refine fx_swIn hF (tgt := 442) d_LW_law_69 (by rw [q11]; decide) (by rw [q11]; decide) (by rw [q11]; rfl) rfl ?_
                            exact case11 q11
                          · skip
                            by_cases q12 : xs (nI a).toNatClampNeg &&& 31 = (12 : Int32)
                            · refine fx_swIn hF (tgt := 495) d_LW_law_69 (by rw [q12]; decide) (by rw [q12]; decide) (by rw [q12]; rfl) rfl ?_
                              exact case12 q12
                            · skip
                              by_cases q13 : xs (nI a).toNatClampNeg &&& 31 = (13 : Int32)
                              · refine fx_swIn hF (tgt := 532) d_LW_law_69 (by rw [q13]; decide) (by rw [q13]; decide) (by rw [q13]; rfl) rfl ?_
                                exact case13 q13
                              · skip
                                by_cases q14 : xs (nI a).toNatClampNeg &&& 31 = (14 : Int32)
                                · refine fx_swIn hF (tgt := 569) d_LW_law_69 (by rw [q14]; decide) (by rw [q14]; decide) (by rw [q14]; rfl) rfl ?_
                                  exact case14 q14
                                · skip
                                  by_cases q15 : xs (nI a).toNatClampNeg &&& 31 = (15 : Int32)
                                  · refine fx_swIn hF (tgt := 594) d_LW_law_69 (by rw [q15]; decide) (by rw [q15]; decide) (by rw [q15]; rfl) rfl ?_
                                    exact case15 q15
                                  · skip
                                    by_cases q16 : xs (nI a).toNatClampNeg &&& 31 = (16 : Int32)
                                    · refine fx_swIn hF (tgt := 619) d_LW_law_69 (by rw [q16]; decide) (by rw [q16]; decide) (by rw [q16]; rfl) rfl ?_
                                      exact case16 q16
                                    · skip
                                      by_cases q17 : xs (nI a).toNatClampNeg &&& 31 = (17 : Int32)
                                      · refine fx_swIn hF (tgt := 656) d_LW_law_69 (by rw [q17]; decide) (by rw [q17]; decide) (by rw [q17]; rfl) rfl ?_
                                        exact case17 q17
                                      · skip
                                        by_cases q18 : xs (nI a).toNatClampNeg &&& 31 = (18 : Int32)
                                        · refine fx_swIn hF (tgt := 681) d_LW_law_69 (by rw [q18]; decide) (by rw [q18]; decide) (by rw [q18]; rfl) rfl ?_
                                          exact case18 q18
                                        · skip
                                          refine fx_swOut hF (tgt := 737) d_LW_law_69 (by have z0 := lv_neT q0 (a := 0) rfl; have z1 := lv_neT q1 (a := 1) rfl; have z2 := lv_neT q2 (a := 2) rfl; have z3 := lv_neT q3 (a := 3) rfl; have z4 := lv_neT q4 (a := 4) rfl; have z5 := lv_neT q5 (a := 5) rfl; have z6 := lv_neT q6 (a := 6) rfl; have z7 := lv_neT q7 (a := 7) rfl; have z8 := lv_neT q8 (a := 8) rfl; have z9 := lv_neT q9 (a := 9) rfl; have z10 := lv_neT q10 (a := 10) rfl; have z11 := lv_neT q11 (a := 11) rfl; have z12 := lv_neT q12 (a := 12) rfl; have z13 := lv_neT q13 (a := 13) rfl; have z14 := lv_neT q14 (a := 14) rfl; have z15 := lv_neT q15 (a := 15) rfl; have z16 := lv_neT q16 (a := 16) rfl; have z17 := lv_neT q17 (a := 17) rfl; have z18 := lv_neT q18 (a := 18) rfl; omega) rfl ?_
                                          have hR1 := hR
                                          refine fx_iinc (pc' := 740) hF (v := nI (a + 3)) (lv' := [(4, .int (nI (a + 3))), (0, .ref b), (1, .ref (gX 0)), (2, .ref (gM 0)), (3, .ref q)]) d_LW_law_737 4 rfl (nI_add a 3) (by decide) rfl rfl ?_
                                          refine fx_goto hF (tgt := 53) d_LW_law_740 rfl ?_
                                          refine fx_lv [1, 2, 3, 4, 0] rfl ?_
                                          exact ih (a + 3) I J z cells slots hR1 (by omega) (by omega) (by omega) (by omega)
