/-! delivering, adding, reading -/
theorem del_ok {N W Q : Nat} (hz : sz N W Q) {K : Nat → Nat × Nat} (hK : kX N K) {t cnt kd r s e : Nat} {h : Nat → Nat} {I J : Nat → Nat → Int32} {v T m : Int32} (hR : R0 N W Q I J) (hC : pC N I J cnt t h) (h0 : I (4 + 3 * N + t) 0 = nI kd) (h1 : I (4 + 3 * N + t) 1 = nI r) (h2 : I (4 + 3 * N + t) 2 = nI s) (h3 : I (4 + 3 * N + t) 3 = nI e) (h4 : I (4 + 3 * N + t) 4 = v) (h5 : I (4 + 3 * N + t) 5 = T) (h6 : I (4 + 3 * N + t) 6 = m) (o1 : kd < 8) (o2 : r < 3) (o3 : s < N) (o4 : e < 20) (o9 : mk m) (o10 : kd = 5 → mk v) (o11 : kd = 1 ∨ kd = 5 → e = 0) (o12 : r = 0 → (kd = 0 ∨ kd = 3 ∨ kd = 4) ∧ T = 0) :
    ∃ I' J' cnt', (fw_bd (fn_MS_isToStore K I (4 + 3 * N + t)) fun r13 I11 => if r13 = 0 then (if (I11 (4 + 3 * N + t) 1) = 0 then fw_ld K (I11 0 5) 4 fun a18 => fw_bv (fn_WR_hear K I11 a18 (4 + 3 * N + t) (I11 0 2)) fun I19 => some (I19 (4 + 3 * N + t) 0, I19) else fw_bv (fn_FL_reachRecoverer K I11 0 (4 + 3 * N + t)) fun I16 => some (I16 (4 + 3 * N + t) 0, I16)) else fw_bv (fn_FL_reachStore K I11 0 (4 + 3 * N + t)) fun I21 => some (I21 (4 + 3 * N + t) 0, I21)) = some (nI kd, I') ∧ (if nI kd = 0 then fw_ld (fw_k LMl) (J 0 4) 21 fun a39 => fw_gd (fw_ix (nI s) (fw_k LMl a39).2) <| if J a39 (nI s).toNatClampNeg = 0 then fw_bv (fn_MD_keep (fw_k LMl) J 0 (nI r) (nI s) (nI e) v T m) fun I42 => some (nI kd, I42) else fn_MD_deliver_126 (fw_k LMl) J 0 (nI kd) (nI r) (nI s) (nI e) v T else fn_MD_deliver_126 (fw_k LMl) J 0 (nI kd) (nI r) (nI s) (nI e) v T) = some (nI kd, J') ∧ R0 N W Q I' J' ∧ pC N I' J' cnt' t h := by
  have z2 := hz.2.1
  have ht := hC.2.1
  have off : ∀ (hd : ¬ J 1 s = 0) (hk : kd < 3), fn_MD_deliver_126 (fw_k LMl) J 0 (nI kd) (nI r) (nI s) (nI e) v T = some (nI kd, J) := by
    intro hd hk
    have l3 : nI kd < (3 : Int32) := nlt (b := 3) hk (by omega)
    unfold fn_MD_deliver_126 fn_MD_deliver_157 fn_MD_deliver_179
    rw [if_neg (show ¬ (3 : Int32) ≤ nI kd from nnle (a := 3) hk (by omega)), m_off hR.1, gd_eq (g_off (by omega)), ncl (by omega), if_neg hd, if_pos l3, if_pos l3]
  by_cases hk3 : kd < 3
  · have ts : fn_MS_isToStore K I (4 + 3 * N + t) = some (1, I) := by
      unfold fn_MS_isToStore
      rw [h0]
      match kd, hk3 with
      | 0, _ => rw [if_pos (show nI 0 = (0 : Int32) from rfl)]
      | 1, _ => rw [if_neg (by decide), if_pos (show nI 1 = (1 : Int32) from rfl)]
      | 2, _ => rw [if_neg (by decide), if_neg (by decide), if_pos (show nI 2 = (2 : Int32) from rfl)]
    rw [bd_eq ts, if_neg (show ¬ (1 : Int32) = 0 by decide)]
    by_cases hd : J 1 s = 0
    · by_cases hk0 : kd = 0
      · subst hk0
        obtain ⟨I', J', cnt', a1, a2, a3, a4, a5⟩ := st_add hz hK hR hC (r := r) (s := s) (e := e) h0 h1 h2 h3 h4 h5 h6 o2 o3 o4 o9 (fun q => (o12 q).2) hd
        refine ⟨I', J', cnt', ?_, ?_, a3, a4⟩
        · rw [bv_eq a1, a5, h0]
        · rw [if_pos (show nI 0 = (0 : Int32) from rfl), m_off hR.1, gd_eq (g_off (by omega)), ncl (by omega), if_pos hd, bv_eq a2]
      · obtain ⟨I', J', cnt', a1, a2, a3, a4, a5⟩ := st_fence hz hK hR hC (kd := kd) (r := r) (s := s) (e := e) (by omega) h0 h1 h2 h3 h5 o2 (by
          rcases Nat.eq_zero_or_pos r with q | q
          · have := (o12 q).1; omega
          · exact q) o3 o4 (fun q => o11 (Or.inl q)) hd
        refine ⟨I', J', cnt', ?_, ?_, a3, a4⟩
        · rw [bv_eq a1, a5, h0]
        · rw [if_neg (show ¬ nI kd = (0 : Int32) from fun q => hk0 ((neq (a := kd) (b := 0) (by omega) (by omega)).mp q))]
          unfold fn_MD_deliver_126
          rw [if_neg (show ¬ (3 : Int32) ≤ nI kd from nnle (a := 3) hk3 (by omega)), m_off hR.1, gd_eq (g_off (by omega)), ncl (by omega), if_pos hd, bv_eq a2]
    · refine ⟨I, J, cnt, ?_, ?_, hR, hC⟩
      · rw [bv_eq (st_down hz hK hR h2 o3 hd), h0]
      · rw [off hd hk3, m_off hR.1, gd_eq (g_off (by omega)), ncl (by omega), if_neg hd]
        by_cases q : nI kd = (0 : Int32)
        · rw [if_pos q]
        · rw [if_neg q]
  · have ts : fn_MS_isToStore K I (4 + 3 * N + t) = some (0, I) := by
      unfold fn_MS_isToStore
      rw [h0, if_neg (show ¬ nI kd = (0 : Int32) from fun q => by have := (neq (a := kd) (b := 0) (by omega) (by omega)).mp q; omega), if_neg (show ¬ nI kd = (1 : Int32) from fun q => by have := (neq (a := kd) (b := 1) (by omega) (by omega)).mp q; omega), if_neg (show ¬ nI kd = (2 : Int32) from fun q => by have := (neq (a := kd) (b := 2) (by omega) (by omega)).mp q; omega)]
    have l3 : ¬ nI kd < (3 : Int32) := nnlt (b := 3) (by omega) (by omega)
    rw [bd_eq ts, if_pos (show (0 : Int32) = 0 from rfl), if_neg (show ¬ nI kd = (0 : Int32) from fun q => by have := (neq (a := kd) (b := 0) (by omega) (by omega)).mp q; omega)]
    unfold fn_MD_deliver_126 fn_MD_deliver_157
    rw [if_pos (show (3 : Int32) ≤ nI kd from nle (a := 3) (by omega) (by omega)), if_neg l3, h1]
    rcases Nat.eq_zero_or_pos r with q | q
    · subst q
      obtain ⟨I', J', a1, a2, a3, a4⟩ := hear_ok hz hK hR (k1 := 4 + 3 * N + t) (kd := kd) (s := s) (e := e) h0 h2 h3 (by have := (o12 rfl).1; omega) o3 o4
      refine ⟨I', J', cnt, ?_, ?_, a3, hC.fr a4⟩
      · rw [if_pos (show nI 0 = (0 : Int32) from rfl), x_wr hK z2 hR.2.1, hR.2.1.2.2.1, bv_eq a1, a4.msg ht, h0]
      · rw [if_pos (show nI 0 = (0 : Int32) from rfl), bv_eq a2]
    · obtain ⟨r, rfl⟩ : ∃ x, r = x + 1 := ⟨r - 1, by omega⟩
      have n0 : ¬ nI (r + 1) = (0 : Int32) := fun q => by have := (neq (a := r + 1) (b := 0) (by omega) (by omega)).mp q; omega
      unfold fn_MD_deliver_179
      rw [if_neg n0, if_neg n0, if_neg l3, m_term hR.1, gd_eq (g_term (by omega)), ncl (by omega)]
      by_cases hT : T = J 10 (r + 1)
      · obtain ⟨I', J', cnt', a1, a2, a3, a4, a5⟩ := rec_ok hz hK (r := r) (by omega) hR hC (kd := kd) ⟨by omega, o1⟩ h0 h1 h2 h3 h4 o3 o4 o10 (h5.trans hT)
        refine ⟨I', J', cnt', ?_, ?_, a3, a4⟩
        · rw [bv_eq a1, a5, h0]
        · rw [if_pos hT, bv_eq a2]
      · refine ⟨I, J, cnt, ?_, ?_, hR, hC⟩
        · rw [bv_eq (rec_no hz hK hR (r := r) (by omega) h1 (by rw [h5]; exact hT)), h0]
        · rw [if_neg hT]
theorem op_deliver {N W Q : Nat} (hz : sz N W Q) {K : Nat → Nat × Nat} (hK : kX N K) (v : Int32) : lw_i (Rel N W Q) (fun I => fn_FL_deliver K I 0 v) (fun J => fn_MD_deliver (fw_k LMl) J 0 v) := by
  intro I J hh
  obtain ⟨hR, cnt, t, h, hC⟩ := hh.thr (x := 0)
  show ∃ r I2 J2, fn_FL_deliver K I 0 v = some (r, I2) ∧ fn_MD_deliver (fw_k LMl) J 0 v = some (r, J2) ∧ Rel N W Q I2 J2
  unfold fn_FL_deliver fn_MD_deliver
  rw [let_eq]
  generalize fw_up2 J 0 0 0 = J1 at hR hC ⊢
  clear hh J
  have z2 := hz.2.1
  rw [x_ch hK z2 hR.2.1]
  rcases ms_arg (K := K) hC v with ⟨q1, q2⟩ | ⟨i, hi, rfl, q1, q2⟩
  · rw [bd_eq q1, bd_eq q2, if_pos rfl, if_pos rfl]; exact ⟨_, _, _, rfl, rfl, hR, cnt, t, h, hC⟩
  · have c1 := hC.1
    have hhi := (hC.2.2.2.2.2.2.1 i (by omega)).2.1
    obtain ⟨row, kd, r, s, e, o1, o2, o3, o4, o5, o6, o7, o8, o9, o10, o11, o12⟩ := hC.2.2.2.2.2.2.2.2 i hi
    obtain ⟨I', J', a1, a2, a3, a4, a5, a6⟩ := take_ok hK z2 hR.1 hC hi
    have k1 : ∀ j, j < 7 → I' (4 + 3 * N + h i) j = J1 6 (7 * i + j) := fun j hj => by rw [a4 _ (by omega) (by omega)]; exact row j hj
    obtain ⟨I2, J2, cnt2, b1, b2, b3, b4⟩ := del_ok hz hK (hR.take a4 a5 a6) a3 (kd := kd) (r := r) (s := s) (e := e) (v := J1 6 (7 * i + 4)) (T := J1 6 (7 * i + 5)) (m := J1 6 (7 * i + 6)) ((k1 0 (by omega)).trans o5) ((k1 1 (by omega)).trans o6) ((k1 2 (by omega)).trans o7) ((k1 3 (by omega)).trans o8) (k1 4 (by omega)) (k1 5 (by omega)) (k1 6 (by omega)) o1 o2 o3 o4 o9 o10 o11 o12
    refine ⟨nI kd, I2, J2, ?_, ?_, b3, cnt2, _, _, b4⟩
    · rw [bd_eq q1, if_neg (show ¬ (1 : Int32) = 0 by decide), x_ch hK z2 hR.2.1, bd_eq a1, ld_eq rfl (by omega) (hK.2.2.2.2.2.1 _ hhi)]
      exact b1
    · have z0 : J1 6 (7 * i) = nI kd := o5
      have z1 : J1 6 (7 * i + 1) = nI r := o6
      have z2 : J1 6 (7 * i + 2) = nI s := o7
      have z3 : J1 6 (7 * i + 3) = nI e := o8
      rw [bd_eq q2, if_neg (show ¬ (1 : Int32) = 0 by decide), m_fly hR.1, n7, gd_eq (g_fly (by omega)), m_fly hR.1, na1, gd_eq (g_fly (by omega)), m_fly hR.1, na2, gd_eq (g_fly (by omega)), m_fly hR.1, na3, gd_eq (g_fly (by omega)), m_fly hR.1, na4, gd_eq (g_fly (by omega)), m_fly hR.1, na5, gd_eq (g_fly (by omega)), m_fly hR.1, na6, gd_eq (g_fly (by omega)), bv_eq a2, ncl (show 7 * i < 1000 by omega), ncl (show 7 * i + 1 < 1000 by omega), ncl (show 7 * i + 2 < 1000 by omega), ncl (show 7 * i + 3 < 1000 by omega), ncl (show 7 * i + 4 < 1000 by omega), ncl (show 7 * i + 5 < 1000 by omega), ncl (show 7 * i + 6 < 1000 by omega), z0, z1, z2, z3]
      exact b2
theorem sub_cc : ∀ a, a < 21 → ∀ l, l < 21 → nI a - 1 - (nI l - 1) = nI a - (nI l - 1 + 1) := by decide +kernel
theorem mk_toInt : ∀ x, x < 21 → (nI x - 1).toInt = (x : Int) - 1 := by decide +kernel
theorem R0.app {N W Q : Nat} {I J : Nat → Nat → Int32} (h : R0 N W Q I J) {x : Int32} {a l : Nat} (ha : a < 20) (hl : l ≤ a) (w4 : I (25 + 3 * N) 3 = nI a) (w6 : I (25 + 3 * N) 4 = nI l - 1) (w7 : J 0 16 = nI l - 1) : R0 N W Q (fw_up2 (fw_up2 I (26 + 3 * N) a x) (25 + 3 * N) 3 (nI (a + 1))) (fw_up2 (fw_up2 J 7 a x) 0 15 (nI (a + 1))) ∧ frC N I (fw_up2 (fw_up2 I (26 + 3 * N) a x) (25 + 3 * N) 3 (nI (a + 1))) J (fw_up2 (fw_up2 J 7 a x) 0 15 (nI (a + 1))) := by
  obtain ⟨w1, w2, w3, -, w8⟩ := h.2.2.2.1
  refine h.wr (fun k _ => by rw [up_row (by omega), up_row (by omega)]) (fun k h h7 _ => by rw [up_row h, up_row h7]) (fun j _ => by rw [up_ap, if_neg (by omega), up_row (by omega)]) ⟨?_, ?_, ?_, ⟨a + 1, l, by omega, by omega, ?_, ?_, ?_, ?_⟩, fun e he => ?_⟩
  · rw [up_nj (by omega), up_row (by omega)]; exact w1
  · rw [up_nj (by omega), up_row (by omega)]; exact w2
  · rw [up_nj (by omega), up_row (by omega), up_nj (by omega), up_row (by omega)]; exact w3
  · rw [up_at]
  · rw [up_at]
  · rw [up_nj (by omega), up_row (by omega)]; exact w6
  · rw [up_nj (by omega), up_row (by omega)]; exact w7
  · rw [up_row (k' := 26 + 3 * N) (by omega), up_row (k' := 7) (by omega), up_row (k' := 27 + 3 * N) (by omega), up_row (k' := 27 + 3 * N) (by omega), up_row (k' := 8) (by omega), up_row (k' := 8) (by omega), up_ap, up_ap]
    refine ⟨?_, (w8 e he).2⟩
    by_cases q : e = a
    · rw [if_pos ⟨rfl, q⟩, if_pos ⟨rfl, q⟩]
    · rw [if_neg (by omega), if_neg (by omega)]
      exact (w8 e he).1
theorem op_add {N W Q : Nat} (hz : sz N W Q) {K : Nat → Nat × Nat} (hK : kX N K) (v : Int32) : lw_t (Rel N W Q) 2 (fun I => fn_FL_add K I 0 v) (fun J => fn_MD_add (fw_k LMl) J 0 v) (fun J => fn_MD_thrown (fw_k LMl) J 0) := by
  intro I J hh
  have hR := hh.1
  have z2 := hz.2.1
  obtain ⟨w1, w2, w3, ⟨a, l, ha, hl, w4, w5, w6, w7⟩, w8⟩ := hR.2.2.2.1
  show ∃ t w I2 x J2, fn_FL_add K I 0 v = some (t, w, I2) ∧ t ≤ 2 ∧ fn_MD_add (fw_k LMl) J 0 v = some (x, J2) ∧ some (J2 0 0, J2) = some (Int32.ofNat t, J2) ∧ (t = 0 → w = x) ∧ Rel N W Q I2 J2
  have thr : ∀ (tt : Nat), 0 < tt → tt ≤ 2 → fn_FL_add K I 0 v = some (tt, 0, I) → fn_MD_add (fw_k LMl) J 0 v = fn_MD_add_41 (fw_k LMl) J 0 v (nI tt) → ∃ t w I2 x J2, fn_FL_add K I 0 v = some (t, w, I2) ∧ t ≤ 2 ∧ fn_MD_add (fw_k LMl) J 0 v = some (x, J2) ∧ some (J2 0 0, J2) = some (Int32.ofNat t, J2) ∧ (t = 0 → w = x) ∧ Rel N W Q I2 J2 := by
    intro tt t1 t2 e1 e2
    refine ⟨tt, 0, I, 0, fw_up2 J 0 0 (nI tt), e1, t2, e2.trans ?_, ?_, fun q => by omega, hh.thr⟩
    · unfold fn_MD_add_41
      rw [let_eq, up_at, if_neg (show ¬ nI tt ≤ (0 : Int32) from nnle (b := 0) (by omega) (by omega))]
    · rw [up_at]
      rfl
  by_cases h0 : J 0 14 = 0
  · by_cases hf : a = 20
    · refine thr 2 (by omega) (by omega) ?_ ?_
      · unfold fn_FL_add fn_WR_isFull
        rw [x_wr hK z2 hR.2.1, w3, if_pos h0, x_wr hK z2 hR.2.1, w4, hf, if_pos (show (20 : Int32) ≤ nI 20 by decide), bd_eq (show some ((1 : Int32), I) = some (1, I) from rfl), if_neg (show ¬ (1 : Int32) = 0 by decide)]
      · unfold fn_MD_add fn_MD_add_36
        rw [if_pos h0, w5, hf, if_pos (show nI 20 = (20 : Int32) from rfl)]
        rfl
    · have ha2 : a < 20 := by omega
      have sc := sub_cc a (by omega) l (by omega)
      have na20 : ¬ nI a = (20 : Int32) := fun q => hf ((neq (a := a) (b := 20) (by omega) (by omega)).mp q)
      by_cases h4 : nI a - (nI l - 1 + 1) < (4 : Int32)
      · obtain ⟨hR0, cnt, t, h, hC0⟩ := hh.thr (x := 0)
        obtain ⟨b1, b2⟩ := hR0.app (x := v) ha2 hl w4 w6 (by rw [up_nj (by omega)]; exact w7)
        obtain ⟨n', I', J', cnt', d1, d2, d3, d4, d5⟩ := wadd_ok hz hK b1 (hC0.fr b2) (e := a) ha2
        refine ⟨0, nI a, I', nI a, J', ?_, by omega, ?_, ?_, fun _ => rfl, d3, _, _, _, d4⟩
        · unfold fn_FL_add fn_WR_isFull fn_WR_append
          rw [x_wr hK z2 hR.2.1, w3, if_pos h0, x_wr hK z2 hR.2.1, w4, w6, if_neg (show ¬ (20 : Int32) ≤ nI a from nnle (a := 20) ha2 (by omega)), if_pos h4, bd_eq (show some ((0 : Int32), I) = some (0, I) from rfl), if_pos (show (0 : Int32) = 0 from rfl), x_wr hK z2 hR.2.1, w4, x_wv hK z2 hR.2.2.2.1, gd_eq (xg_wv hK ha2), ncl (by omega), let_eq, up_row (show 25 + 3 * N ≠ 26 + 3 * N by omega), w4, na1, let_eq]
          refine (bd_eq rfl).trans ?_
          rw [bd_eq d1]
        · unfold fn_MD_add fn_MD_add_41
          rw [if_pos h0, w5, w7, if_neg na20, sc, if_pos h4, let_eq, up_at, if_pos (show (0 : Int32) ≤ 0 by decide), m_wri hR0.1, up_nj (j := 0) (j' := 15) (by decide), w5, gd_eq (g_wri ha2), ncl (by omega), let_eq, up_row (show 0 ≠ 7 by decide), up_nj (j := 0) (j' := 15) (by decide), w5, na1, let_eq, bd_eq d2]
        · rw [d5.2.2.2 0 (by omega), up_nj (by omega), up_row (by omega), up_at]
          rfl
      · refine thr 2 (by omega) (by omega) ?_ ?_
        · unfold fn_FL_add fn_WR_isFull
          rw [x_wr hK z2 hR.2.1, w3, if_pos h0, x_wr hK z2 hR.2.1, w4, w6, if_neg (show ¬ (20 : Int32) ≤ nI a from nnle (a := 20) ha2 (by omega)), if_neg h4, bd_eq (show some ((1 : Int32), I) = some (1, I) from rfl), if_neg (show ¬ (1 : Int32) = 0 by decide)]
        · unfold fn_MD_add fn_MD_add_36
          rw [if_pos h0, w5, w7, if_neg na20, sc, if_neg h4]
          rfl
  · refine thr 1 (by omega) (by omega) ?_ ?_
    · unfold fn_FL_add
      rw [x_wr hK z2 hR.2.1, w3, if_neg h0]
    · unfold fn_MD_add
      rw [if_neg h0]
      rfl
theorem fu_ok {N W Q : Nat} (hz : sz N W Q) {K : Nat → Nat × Nat} (hK : kX N K) {I J : Nat → Nat → Int32} (hR : R0 N W Q I J) {e : Nat} (he : e < 20) : ∀ (d f j : Nat), W - j = d → d < f → j ≤ W → (fn_FL_firstUpWith_2 K f I 0 (nI e) (nI j) = some (-1, I) ∧ fn_MD_read_45 (fw_k LMl) f J 0 (nI e) (nI j) = some (0, J)) ∨ ∃ s, s < N ∧ fn_FL_firstUpWith_2 K f I 0 (nI e) (nI j) = some (nI s, I) ∧ fn_MD_read_45 (fw_k LMl) f J 0 (nI e) (nI j) = some (J 5 (20 * s + e), fw_up2 J 0 0 0) := by
  obtain ⟨z1, z2, z3, z4, z5, z6⟩ := hz
  intro d
  induction d with
  | zero =>
    intro f j hd hf hj
    obtain ⟨g, rfl⟩ : ∃ g, f = g + 1 := ⟨f - 1, by omega⟩
    refine Or.inl ⟨?_, ?_⟩
    · rw [fn_FL_firstUpWith_2, hR.2.1.2.1, if_pos (nle (by omega) (by omega))]
    · rw [fn_MD_read_45, hR.2.1.2.2.2.2.2.2.2.2.1, if_pos (nle (by omega) (by omega))]
  | succ d ih =>
    intro f j hd hf hj
    obtain ⟨g, rfl⟩ : ∃ g, f = g + 1 := ⟨f - 1, by omega⟩
    have hs : (e + j) % N < N := Nat.mod_lt _ (by omega)
    have hnz : decide (¬ nI N = 0) = true := decide_eq_true (by intro h; have := (neq (a := N) (b := 0) (by omega) (by omega)).mp h; omega)
    have hsm : nI (e + j) - nI (e + j) / nI N * nI N = nI ((e + j) % N) := set_m _ (by omega) _ (by omega) (by omega)
    obtain ⟨s1, s2, s3, s4, s5, s6, s7, s8, s9, s10⟩ := hR.2.2.1 _ hs
    have hRt : R0 N W Q I (fw_up2 J 0 0 0) := hR.thr
    have q := ih g (j + 1) (by omega) (by omega) (by omega)
    rw [fn_FL_firstUpWith_2, hR.2.1.2.1, if_neg (nnle (by omega) (by omega)), bd_eq (memb hR.2.1.1 ⟨z1, z2⟩ he (by omega)), x_sto hK hR.2.1, gd_eq (xg_sto hK z2 hs), ncl (show (e + j) % N < 1000 by omega), x_s hK z2 hR.2.2.1 hs, x_sto hK hR.2.1, gd_eq (xg_sto hK z2 hs), x_s hK z2 hR.2.2.1 hs, x_sk hK z2 hR.2.2.1 hs, gd_eq (xg_sk hK hs he), ncl (show e < 1000 by omega), (s10 e he).1, na1, fn_MD_read_45, hR.2.1.2.2.2.2.2.2.2.2.1, if_neg (nnle (by omega) (by omega)), hR.2.1.2.2.2.2.2.2.2.1, gd_eq hnz, m_off hR.1, nI_add, hsm, gd_eq (g_off (by omega)), ncl (show (e + j) % N < 1000 by omega), m_held hR.1, n20, nI_add, gd_eq (g_held (by omega)), ncl (show 20 * ((e + j) % N) + e < 1000 by omega), na1]
    rcases s4 with ⟨i1, i2⟩ | ⟨i1, i2⟩
    · rw [i1, i2, if_neg (show ¬ (1 : Int32) = 0 by decide), if_pos (show (0 : Int32) = 0 from rfl)]
      by_cases hk : J 4 (20 * ((e + j) % N) + e) = 0
      · rw [if_pos hk, if_pos hk]
        exact q
      · refine Or.inr ⟨_, hs, by rw [if_neg hk], ?_⟩
        rw [if_neg hk, let_eq, m_hv hRt.1, gd_eq (g_hv (by omega)), up_row (show 5 ≠ 0 by decide)]
    · rw [i1, i2, if_pos (show (0 : Int32) = 0 from rfl), if_neg (show ¬ (1 : Int32) = 0 by decide)]
      exact q
theorem op_read {N W Q : Nat} (hz : sz N W Q) {K : Nat → Nat × Nat} (hK : kX N K) (v : Int32) : lw_t (Rel N W Q) 3 (fun I => fn_FL_read K I 0 v) (fun J => fn_MD_read (fw_k LMl) J 0 v) (fun J => fn_MD_thrown (fw_k LMl) J 0) := by
  intro I J hh
  have hR := hh.1
  have z2 := hz.2.1
  have e1 : I 0 7 = J 0 9 := hR.2.1.2.2.2.2.2.2.2.2.2.2.1
  have e3 : I 0 9 = J 0 11 := hR.2.1.2.2.2.2.2.2.2.2.2.2.2.2.1
  obtain ⟨x, hx, hx2⟩ := hR.2.1.2.2.2.2.2.2.2.2.2.2.2.2.2
  rw [e3] at hx2
  show ∃ t w I2 x J2, fn_FL_read K I 0 v = some (t, w, I2) ∧ t ≤ 3 ∧ fn_MD_read (fw_k LMl) J 0 v = some (x, J2) ∧ some (J2 0 0, J2) = some (Int32.ofNat t, J2) ∧ (t = 0 → w = x) ∧ Rel N W Q I2 J2
  have thr : ∀ (tt : Nat), 0 < tt → tt ≤ 2 → fn_FL_read K I 0 v = some (tt, 0, I) → fn_MD_read (fw_k LMl) J 0 v = fn_MD_read_30 (fw_k LMl) J 0 v (nI tt) → ∃ t w I2 x J2, fn_FL_read K I 0 v = some (t, w, I2) ∧ t ≤ 3 ∧ fn_MD_read (fw_k LMl) J 0 v = some (x, J2) ∧ some (J2 0 0, J2) = some (Int32.ofNat t, J2) ∧ (t = 0 → w = x) ∧ Rel N W Q I2 J2 := by
    intro tt t1 t2 e1 e2
    refine ⟨tt, 0, I, 0, fw_up2 J 0 0 (nI tt), e1, by omega, e2.trans ?_, ?_, fun q => by omega, hh.thr⟩
    · unfold fn_MD_read_30
      rw [let_eq, up_at, if_neg (show ¬ (3 : Int32) ≤ nI tt from nnle (a := 3) (by omega) (by omega))]
    · rw [up_at]
      rfl
  by_cases h2 : J 0 9 = 2
  · rcases arg_ok (v := v) (c := 20) (by omega) with (q | ⟨q3, q4⟩) | ⟨e, he, rfl, q3, q4⟩
    · refine thr 2 (by omega) (by omega) ?_ ?_
      · unfold fn_FL_read fn_FL_isEntry fn_FL_read_33
        rw [e1, if_pos h2, if_pos q, bd_eq (show some ((0 : Int32), I) = some (0, I) from rfl), if_pos (show (0 : Int32) = 0 from rfl)]
      · unfold fn_MD_read fn_MD_read_25
        rw [if_pos h2, if_pos q]
        rfl
    · refine thr 2 (by omega) (by omega) ?_ ?_
      · unfold fn_FL_read fn_FL_isEntry fn_FL_read_33
        rw [e1, if_pos h2, if_neg q3, if_pos (show (20 : Int32) ≤ v from q4), bd_eq (show some ((0 : Int32), I) = some (0, I) from rfl), if_pos (show (0 : Int32) = 0 from rfl)]
      · have no : ¬ v ≤ J 0 11 := by
          rw [hx2, Int32.le_iff_toInt_le, mk_toInt x (by omega)]
          rw [Int32.le_iff_toInt_le, nI_toInt (by omega)] at q4
          omega
        unfold fn_MD_read fn_MD_read_25
        rw [if_pos h2, if_neg q3, if_neg no]
        rfl
    · by_cases hl : nI e ≤ J 0 11
      · have hR3 : R0 N W Q I (fw_up2 J 0 0 3) := hR.thr
        have m0 : fn_MD_read (fw_k LMl) J 0 (nI e) = fn_MD_read_45 (fw_k LMl) 200 (fw_up2 J 0 0 3) 0 (nI e) (nI 0) := by
          unfold fn_MD_read fn_MD_read_30
          rw [if_pos h2, if_neg q3, if_pos hl, let_eq, up_at, if_pos (show (3 : Int32) ≤ 3 by decide)]
          rfl
        have c0 : fn_FL_read K I 0 (nI e) = fw_bd (fn_FL_firstUpWith_2 K 200 I 0 (nI e) (nI 0)) fun r9 I7 => if r9 = (-1 : Int32) then some (3, (0 : Int32), I7) else fw_ld K (I7 0 3) 23 fun a11 => fw_gd (fw_ix r9 (K a11).2) <| fw_ld K (I7 a11 r9.toNatClampNeg) 3 fun a13 => fw_ld K (I7 a13 1) 20 fun a14 => fw_gd (fw_ix (nI e) (K a14).2) <| some (0, I7 a14 (nI e).toNatClampNeg, I7) := by
          unfold fn_FL_read fn_FL_isEntry
          rw [e1, if_pos h2, if_neg q3, if_neg (show ¬ (20 : Int32) ≤ nI e from q4), bd_eq (show some ((1 : Int32), I) = some (1, I) from rfl), if_neg (show ¬ (1 : Int32) = 0 by decide), e3, if_pos hl]
          rfl
        rcases fu_ok hz hK hR3 he W 200 0 rfl (by have := hz.2.2.2.1; omega) (by omega) with ⟨a1, a2⟩ | ⟨s, hs, a1, a2⟩
        · refine ⟨3, 0, I, 0, fw_up2 J 0 0 3, ?_, by omega, m0.trans a2, ?_, fun q => by omega, hh.thr⟩
          · rw [c0, bd_eq a1, if_pos rfl]
          · rw [up_at]
            rfl
        · refine ⟨0, J 5 (20 * s + e), I, J 5 (20 * s + e), fw_up2 (fw_up2 J 0 0 3) 0 0 0, ?_, by omega, m0.trans a2, ?_, fun _ => rfl, hh.thr.thr⟩
          · have ns : ¬ nI s = (-1 : Int32) := by
              intro q
              have q1 := congrArg Int32.toInt q
              rw [nI_toInt (by omega), show (-1 : Int32).toInt = -1 from rfl] at q1
              omega
            rw [c0, bd_eq a1, if_neg ns, x_sto hK hR.2.1, gd_eq (xg_sto hK z2 hs), ncl (show s < 1000 by omega), x_s hK z2 hR.2.2.1 hs, x_sv hK z2 hR.2.2.1 hs, gd_eq (xg_sv hK hs he), ncl (show e < 1000 by omega), ((hR.2.2.1 s hs).2.2.2.2.2.2.2.2.2 e he).2.2]
          · rw [up_at]
            rfl
      · refine thr 2 (by omega) (by omega) ?_ ?_
        · unfold fn_FL_read fn_FL_isEntry fn_FL_read_33
          rw [e1, if_pos h2, if_neg q3, if_neg (show ¬ (20 : Int32) ≤ nI e from q4), bd_eq (show some ((1 : Int32), I) = some (1, I) from rfl), if_neg (show ¬ (1 : Int32) = 0 by decide), e3, if_neg hl]
        · unfold fn_MD_read fn_MD_read_25
          rw [if_pos h2, if_neg q3, if_neg hl]
          rfl
  · refine thr 1 (by omega) (by omega) ?_ ?_
    · unfold fn_FL_read
      rw [e1, if_neg h2]
    · unfold fn_MD_read
      rw [if_neg h2]
      rfl
theorem ops_ok {N W Q : Nat} (hz : sz N W Q) {K : Nat → Nat × Nat} (hK : kX N K) : lw_ops K (fw_k LMl) (Rel N W Q) :=
  ⟨op_resend hz hK, op_close hz hK, op_leave hz hK, op_recover hz hK, op_retry hz hK, op_abandon hz hK, op_deliver hz hK, op_lose hz hK, op_flight hz hK, op_message hz hK, op_power hz hK, op_store hz hK, op_has hz hK, op_writer hz hK, op_answers hz hK, op_recoverer hz hK, op_ledger hz hK, op_add hz hK, op_read hz hK⟩
