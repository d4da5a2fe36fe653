/-! the public methods, second half -/
theorem cnt_l {s : Nat} (hs : s < 5) {g : Nat → Int32} {J : Nat → Nat → Int32} (hM : pM J) (hg : ∀ e, e < 20 → g e = J 4 (20 * s + e)) : ∀ (d f x : Nat), 20 - x = d → d < f → x ≤ 20 → fn_MD_store_34 (fw_k LMl) f J 0 (nI s) (nI (cntK g x)) (nI x) = some (nI (cntK g 20), J) := by
  intro d
  induction d with
  | zero =>
    intro f x hd hf hx
    obtain ⟨k, rfl⟩ : ∃ k, f = k + 1 := ⟨f - 1, by omega⟩
    have hx2 : x = 20 := by omega
    subst hx2
    rw [fn_MD_store_34, if_pos (show (20 : Int32) ≤ nI 20 from nle (a := 20) (by omega) (by omega))]
  | succ d ih =>
    intro f x hd hf hx
    obtain ⟨k, rfl⟩ : ∃ k, f = k + 1 := ⟨f - 1, by omega⟩
    rw [fn_MD_store_34, if_neg (show ¬ (20 : Int32) ≤ nI x from nnle (a := 20) (by omega) (by omega)), m_held hM, n20, nI_add, gd_eq (g_held (by omega)), ncl (by omega), ← hg x (by omega), na0, na1, na1]
    have q := ih k (x + 1) (by omega) (by omega) (by omega)
    by_cases h0 : g x = 0
    · rw [if_pos h0]
      rw [cntK, if_pos h0] at q
      exact q
    · rw [if_neg h0]
      rw [cntK, if_neg h0] at q
      exact q
theorem op_store {N W Q : Nat} (hz : sz N W Q) {K : Nat → Nat × Nat} (hK : kX N K) (v w : Int32) : lw_i (Rel N W Q) (fun I => fn_FL_store K I 0 v w) (fun J => fn_MD_store (fw_k LMl) J 0 v w) := by
  intro I J hh
  obtain ⟨hR, cnt, t, h, hC⟩ := hh.thr (x := 0)
  show ∃ r I2 J2, fn_FL_store K I 0 v w = some (r, I2) ∧ fn_MD_store (fw_k LMl) J 0 v w = some (r, J2) ∧ Rel N W Q I2 J2
  unfold fn_FL_store fn_MD_store
  rw [let_eq]
  generalize fw_up2 J 0 0 0 = J1 at hR hC ⊢
  clear hh J
  have z2 := hz.2.1
  have fin : Rel N W Q I J1 := ⟨hR, cnt, t, h, hC⟩
  rcases st_arg hz (K := K) hR v with ⟨q1, q2⟩ | ⟨s, hs, rfl, q1, q2⟩
  · rw [bd_eq q1, bd_eq q2, if_pos rfl, if_pos rfl]; exact ⟨_, _, _, rfl, rfl, fin⟩
  · obtain ⟨s1, s2, s3, s4, s5, s6, s7, s8, s9, s10⟩ := hR.2.2.1 s hs
    rw [bd_eq q1, bd_eq q2, if_neg (show ¬ (1 : Int32) = 0 by decide), if_neg (show ¬ (1 : Int32) = 0 by decide), x_sto hK hR.2.1, gd_eq (xg_sto hK z2 hs), ncl (by omega), x_s hK z2 hR.2.2.1 hs]
    rcases arg_ok (v := w) (c := 4) (by omega) with q | ⟨j, hj, rfl, q3, q4⟩
    · have d : fn_ST_detail K I (2 + 3 * s) w = some (-1, I) := by
        unfold fn_ST_detail
        rw [if_neg (show ¬ w = (0 : Int32) from ne_out (i := 0) (by omega) (by omega) q), if_neg (show ¬ w = (1 : Int32) from ne_out (i := 1) (by omega) (by omega) q), if_neg (show ¬ w = (2 : Int32) from ne_out (i := 2) (by omega) (by omega) q), if_neg (show ¬ w = (3 : Int32) from ne_out (i := 3) (by omega) (by omega) q)]
      rw [bd_eq d]
      rcases q with q | ⟨q3, q4⟩
      · rw [if_pos q]; exact ⟨_, _, _, rfl, rfl, fin⟩
      · rw [if_neg q3, if_neg (show ¬ w ≤ (3 : Int32) from le_out (c := 3) (by omega) q4)]; exact ⟨_, _, _, rfl, rfl, fin⟩
    · rw [if_neg q3, if_pos (show nI j ≤ (3 : Int32) from nle (b := 3) (by omega) (by omega))]
      unfold fn_ST_detail
      match j, hj with
      | 0, _ =>
        rw [if_pos (show nI 0 = (0 : Int32) from rfl), if_neg (show ¬ nI 0 = (3 : Int32) by decide), if_pos (show nI 0 = (0 : Int32) from rfl), m_off hR.1, gd_eq (g_off (by omega))]
        rcases s4 with ⟨i1, i2⟩ | ⟨i1, i2⟩
        · rw [i1, i2, if_neg (show ¬ (1 : Int32) = 0 by decide), if_pos (show (0 : Int32) = 0 from rfl)]; exact ⟨_, _, _, rfl, rfl, fin⟩
        · rw [i1, i2, if_pos (show (0 : Int32) = 0 from rfl), if_neg (show ¬ (1 : Int32) = 0 by decide)]; exact ⟨_, _, _, rfl, rfl, fin⟩
      | 1, _ =>
        rw [if_neg (show ¬ nI 1 = (0 : Int32) by decide), if_pos (show nI 1 = (1 : Int32) from rfl), if_neg (show ¬ nI 1 = (3 : Int32) by decide), if_neg (show ¬ nI 1 = (0 : Int32) by decide), if_pos (show nI 1 = (1 : Int32) from rfl), m_fen hR.1, gd_eq (g_fen (by omega)), s5]
        by_cases i2 : J1 2 s = 0
        · rw [if_pos i2, if_pos i2]; exact ⟨_, _, _, rfl, rfl, fin⟩
        · rw [if_neg i2, if_neg i2]; exact ⟨_, _, _, rfl, rfl, fin⟩
      | 2, _ =>
        rw [if_neg (show ¬ nI 2 = (0 : Int32) by decide), if_neg (show ¬ nI 2 = (1 : Int32) by decide), if_pos (show nI 2 = (2 : Int32) from rfl), if_neg (show ¬ nI 2 = (3 : Int32) by decide), if_neg (show ¬ nI 2 = (0 : Int32) by decide), if_neg (show ¬ nI 2 = (1 : Int32) by decide), m_mark hR.1, gd_eq (g_mark (by omega)), s7]
        exact ⟨_, _, _, rfl, rfl, fin⟩
      | 3, _ =>
        rw [if_neg (show ¬ nI 3 = (0 : Int32) by decide), if_neg (show ¬ nI 3 = (1 : Int32) by decide), if_neg (show ¬ nI 3 = (2 : Int32) by decide), if_pos (show nI 3 = (3 : Int32) from rfl), if_pos (show nI 3 = (3 : Int32) from rfl), s9]
        exact ⟨_, _, _, rfl, cnt_l (s := s) (by omega) hR.1 (fun e he => (s10 e he).1) 20 200 0 rfl (by omega) (by omega), fin⟩
theorem op_has {N W Q : Nat} (hz : sz N W Q) {K : Nat → Nat × Nat} (hK : kX N K) (v w : Int32) : lw_i (Rel N W Q) (fun I => fn_FL_has K I 0 v w) (fun J => fn_MD_has (fw_k LMl) J 0 v w) := by
  intro I J hh
  obtain ⟨hR, cnt, t, h, hC⟩ := hh.thr (x := 0)
  show ∃ r I2 J2, fn_FL_has K I 0 v w = some (r, I2) ∧ fn_MD_has (fw_k LMl) J 0 v w = some (r, J2) ∧ Rel N W Q I2 J2
  unfold fn_FL_has fn_MD_has
  rw [let_eq]
  generalize fw_up2 J 0 0 0 = J1 at hR hC ⊢
  clear hh J
  have z2 := hz.2.1
  have fin : Rel N W Q I J1 := ⟨hR, cnt, t, h, hC⟩
  rcases st_arg hz (K := K) hR v with ⟨q1, q2⟩ | ⟨s, hs, rfl, q1, q2⟩
  · rw [bd_eq q1, bd_eq q2, if_pos rfl, if_pos rfl]; exact ⟨_, _, _, rfl, rfl, fin⟩
  · obtain ⟨s1, s2, s3, s4, s5, s6, s7, s8, s9, s10⟩ := hR.2.2.1 s hs
    rw [bd_eq q1, bd_eq q2, if_neg (show ¬ (1 : Int32) = 0 by decide), if_neg (show ¬ (1 : Int32) = 0 by decide)]
    unfold fn_FL_isEntry
    rcases arg_ok (v := w) (c := 20) (by omega) with (q | ⟨q3, q4⟩) | ⟨j, hj, rfl, q3, q4⟩
    · rw [if_pos q, if_pos q]; exact ⟨_, _, _, rfl, rfl, fin⟩
    · rw [if_neg q3, if_pos (show (20 : Int32) ≤ w from q4), if_neg q3, if_pos (show (20 : Int32) ≤ w from q4)]; exact ⟨_, _, _, rfl, rfl, fin⟩
    · rw [if_neg q3, if_neg (show ¬ (20 : Int32) ≤ nI j from q4), if_neg q3, if_neg (show ¬ (20 : Int32) ≤ nI j from q4), bd_eq (show some ((1 : Int32), I) = some (1, I) from rfl), if_neg (show ¬ (1 : Int32) = 0 by decide), x_sto hK hR.2.1, gd_eq (xg_sto hK z2 hs), ncl (show s < 1000 by omega), x_s hK z2 hR.2.2.1 hs, x_sk hK z2 hR.2.2.1 hs, gd_eq (xg_sk hK hs hj), ncl (show j < 1000 by omega), (s10 j hj).1, m_held hR.1, bd_eq q2, if_neg (show ¬ (1 : Int32) = 0 by decide), if_neg q3, if_neg (show ¬ (20 : Int32) ≤ nI j from q4), n20, nI_add, gd_eq (g_held (by omega)), ncl (by omega)]
      by_cases i2 : J1 4 (20 * s + j) = 0
      · rw [if_pos i2, if_pos i2]; exact ⟨_, _, _, rfl, rfl, fin⟩
      · rw [if_neg i2, if_neg i2]; exact ⟨_, _, _, rfl, rfl, fin⟩
theorem ca_ok {N W Q e b : Nat} (hz : sz N W Q) {K : Nat → Nat × Nat} (hK : kX N K) {I J : Nat → Nat → Int32} (hR : R0 N W Q I J) (he : e < 20) (hb : b < 2 ^ N) (hb1 : I (27 + 3 * N) e = nI b) : fn_WR_countAnswers K I (25 + 3 * N) (nI e) = some (nI (pc5 b), I) := by
  unfold fn_WR_countAnswers
  rw [x_wa hK hz.2.1 hR.2.2.2.1, gd_eq (xg_wa hK he), ncl (by omega)]
  exact bd_eq (bc_eq hb1 (b32 hz hb))
theorem kn_ok {K : Nat → Nat × Nat} {I : Nat → Nat → Int32} {k a : Nat} (ha : a ≤ 20) (h3 : I k 3 = nI a) (v : Int32) : (fn_WR_knows K I k v = some (0, I) ∧ (v < 0 ∨ (¬ v < 0 ∧ ¬ v < nI a))) ∨ ∃ e, e < a ∧ v = nI e ∧ fn_WR_knows K I k v = some (1, I) ∧ ¬ v < 0 ∧ v < nI a := by
  unfold fn_WR_knows
  rw [h3]
  rcases arg_ok (v := v) (c := a) (by omega) with (q | ⟨q3, q4⟩) | ⟨j, hj, q2, q3, q4⟩
  · rw [if_pos q]; exact Or.inl ⟨rfl, Or.inl q⟩
  · rw [if_neg q3, if_pos q4]; exact Or.inl ⟨rfl, Or.inr ⟨q3, Int32.not_lt.mpr q4⟩⟩
  · rw [if_neg q3, if_neg q4]; exact Or.inr ⟨j, hj, q2, rfl, q3, by rw [q2]; exact nlt hj (by omega)⟩
theorem wadd_ok {N W Q e : Nat} (hz : sz N W Q) {K : Nat → Nat × Nat} (hK : kX N K) {I J : Nat → Nat → Int32} (hR : R0 N W Q I J) {cnt t : Nat} {h : Nat → Nat} (hC : pC N I J cnt t h) (he : e < 20) : ∃ n' I' J' cnt', fn_FL_sendWritersAdd K I 0 (nI e) = some (nI n', I') ∧ fn_MD_spread (fw_k LMl) J 0 (nI e) = some (nI n', J') ∧ R0 N W Q I' J' ∧ pC N I' J' cnt' t h ∧ frS N t I I' J J' := by
  have z2 := hz.2.1
  have z4 := hz.2.2.2.1
  obtain ⟨w1, w2, w3, ⟨a, l, ha, hl, w4, w5, w6, w7⟩, w8⟩ := hR.2.2.2.1
  obtain ⟨i7, b, hb, hb1, hb2⟩ := w8 e he
  obtain ⟨n', I', J', cnt', a1, a2, a3, a4, a5⟩ := spread_ok hz hK he hb (l := l) (by omega) (v := J 7 e) W 200 0 0 I J cnt rfl (by omega) (by omega) hR hC hb2 rfl w7
  refine ⟨n', I', J', cnt', ?_, a2, a3, a4, a5⟩
  unfold fn_FL_sendWritersAdd fn_FL_sendToSet
  rw [x_wr hK z2 hR.2.1, x_wv hK z2 hR.2.2.2.1, gd_eq (xg_wv hK he), x_wr hK z2 hR.2.1, x_wr hK z2 hR.2.1, x_wa hK z2 hR.2.2.2.1, gd_eq (xg_wa hK he), ncl (by omega), i7, w6, hb1]
  exact bd_eq a1
theorem op_answers {N W Q : Nat} (hz : sz N W Q) {K : Nat → Nat × Nat} (hK : kX N K) (v : Int32) : lw_i (Rel N W Q) (fun I => fn_FL_answers K I 0 v) (fun J => fn_MD_answers (fw_k LMl) J 0 v) := by
  intro I J hh
  obtain ⟨hR, cnt, t, h, hC⟩ := hh.thr (x := 0)
  show ∃ r I2 J2, fn_FL_answers K I 0 v = some (r, I2) ∧ fn_MD_answers (fw_k LMl) J 0 v = some (r, J2) ∧ Rel N W Q I2 J2
  unfold fn_FL_answers fn_MD_answers
  rw [let_eq]
  generalize fw_up2 J 0 0 0 = J1 at hR hC ⊢
  clear hh J
  have z2 := hz.2.1
  have fin : Rel N W Q I J1 := ⟨hR, cnt, t, h, hC⟩
  obtain ⟨w1, w2, w3, ⟨a, l, ha, hl, w4, w5, w6, w7⟩, w8⟩ := hR.2.2.2.1
  rw [x_wr hK z2 hR.2.1, w5]
  rcases kn_ok (K := K) ha w4 v with ⟨q1, q2⟩ | ⟨e, he, rfl, q1, q2, q3⟩
  · rw [bd_eq q1, if_pos rfl]
    rcases q2 with q2 | ⟨q2, q3⟩
    · rw [if_pos q2]; exact ⟨_, _, _, rfl, rfl, fin⟩
    · rw [if_neg q2, if_neg q3]; exact ⟨_, _, _, rfl, rfl, fin⟩
  · obtain ⟨i7, b, hb, hb1, hb2⟩ := w8 e (by omega)
    rw [bd_eq q1, if_neg (show ¬ (1 : Int32) = 0 by decide), if_neg q2, if_pos q3, x_wr hK z2 hR.2.1, bd_eq (ca_ok hz hK hR (by omega) hb hb1), bd_eq (ack_ok hz hR (by omega) hb hb2)]
    exact ⟨_, _, _, rfl, rfl, fin⟩
theorem op_resend {N W Q : Nat} (hz : sz N W Q) {K : Nat → Nat × Nat} (hK : kX N K) (v : Int32) : lw_i (Rel N W Q) (fun I => fn_FL_resend K I 0 v) (fun J => fn_MD_resend (fw_k LMl) J 0 v) := by
  intro I J hh
  obtain ⟨hR, cnt, t, h, hC⟩ := hh.thr (x := 0)
  show ∃ r I2 J2, fn_FL_resend K I 0 v = some (r, I2) ∧ fn_MD_resend (fw_k LMl) J 0 v = some (r, J2) ∧ Rel N W Q I2 J2
  unfold fn_FL_resend fn_MD_resend
  rw [let_eq]
  generalize fw_up2 J 0 0 0 = J1 at hR hC ⊢
  clear hh J
  have z2 := hz.2.1
  have fin : Rel N W Q I J1 := ⟨hR, cnt, t, h, hC⟩
  obtain ⟨w1, w2, w3, ⟨a, l, ha, hl, w4, w5, w6, w7⟩, w8⟩ := hR.2.2.2.1
  rw [x_wr hK z2 hR.2.1, x_wr hK z2 hR.2.1, w3, w5, w7]
  by_cases h0 : J1 0 14 = 0
  · rw [if_pos h0, if_pos h0]
    rcases kn_ok (K := K) ha w4 v with ⟨q1, q2⟩ | ⟨e, he, rfl, q1, q2, q3⟩
    · rw [bd_eq q1, if_pos rfl]
      rcases q2 with q2 | ⟨q2, q3⟩
      · rw [if_pos q2]; exact ⟨_, _, _, rfl, rfl, fin⟩
      · rw [if_neg q2, if_neg q3]; exact ⟨_, _, _, rfl, rfl, fin⟩
    · obtain ⟨i7, b, hb, hb1, hb2⟩ := w8 e (by omega)
      obtain ⟨n', I', J', cnt', a1, a2, a3, a4, a5⟩ := wadd_ok hz hK hR hC (e := e) (by omega)
      rw [bd_eq q1, if_neg (show ¬ (1 : Int32) = 0 by decide), if_neg q2, if_pos q3, x_wr hK z2 hR.2.1, w6]
      by_cases h1 : nI l - 1 < nI e
      · rw [if_pos h1, if_pos h1, bd_eq a1, bd_eq a2]; exact ⟨_, _, _, rfl, rfl, a3, _, _, _, a4⟩
      · rw [if_neg h1, if_neg h1, x_wr hK z2 hR.2.1, bd_eq (ca_ok hz hK hR (by omega) hb hb1), bd_eq (ack_ok hz hR (by omega) hb hb2), hR.2.1.2.1, hR.2.1.2.2.2.2.2.2.2.2.1]
        by_cases h2 : nI (pc5 b) = nI W
        · rw [if_pos h2, if_pos h2]; exact ⟨_, _, _, rfl, rfl, fin⟩
        · rw [if_neg h2, if_neg h2, bd_eq a1, bd_eq a2]; exact ⟨_, _, _, rfl, rfl, a3, _, _, _, a4⟩
  · rw [if_neg h0, if_neg h0]; exact ⟨_, _, _, rfl, rfl, fin⟩
theorem op_recoverer {N W Q : Nat} (hz : sz N W Q) {K : Nat → Nat × Nat} (hK : kX N K) (v w : Int32) : lw_i (Rel N W Q) (fun I => fn_FL_recoverer K I 0 v w) (fun J => fn_MD_recoverer (fw_k LMl) J 0 v w) := by
  intro I J hh
  obtain ⟨hR, cnt, t, h, hC⟩ := hh.thr (x := 0)
  show ∃ r I2 J2, fn_FL_recoverer K I 0 v w = some (r, I2) ∧ fn_MD_recoverer (fw_k LMl) J 0 v w = some (r, J2) ∧ Rel N W Q I2 J2
  unfold fn_FL_recoverer fn_MD_recoverer
  rw [let_eq]
  generalize fw_up2 J 0 0 0 = J1 at hR hC ⊢
  clear hh J
  have z2 := hz.2.1
  have fin : Rel N W Q I J1 := ⟨hR, cnt, t, h, hC⟩
  rcases rc_arg (K := K) (I := I) (J := J1) v with ⟨q1, q2⟩ | ⟨r, hr, rfl, q1, q2⟩
  · rw [bd_eq q1, bd_eq q2, if_pos rfl, if_pos rfl]; exact ⟨_, _, _, rfl, rfl, fin⟩
  · obtain ⟨p1, p2, p3, p4, p5, p6, p7, ⟨b, hb, p8, p9⟩, p10, p11, p12⟩ := hR.2.2.2.2 r hr
    rw [bd_eq q1, bd_eq q2, if_neg (show ¬ (1 : Int32) = 0 by decide), if_neg (show ¬ (1 : Int32) = 0 by decide), x_rec hK z2 hR.2.1, sub_1, gd_eq (xg_r hK hr), ncl (by omega), x_r hK z2 hR.2.2.2.2 hr, m_mode hR.1, m_term hR.1, m_at hR.1, m_high hR.1, gd_eq (g_mode (by omega)), gd_eq (g_term (by omega)), gd_eq (g_at (by omega)), gd_eq (g_high (by omega)), ncl (by omega)]
    unfold fn_RC_detail fn_RC_countAnswered
    by_cases h0 : w = 0
    · rw [if_pos h0, if_pos h0, p3]; exact ⟨_, _, _, rfl, rfl, fin⟩
    · rw [if_neg h0, if_neg h0]
      by_cases h1 : w = 1
      · rw [if_pos h1, if_pos h1, p5]; exact ⟨_, _, _, rfl, rfl, fin⟩
      · rw [if_neg h1, if_neg h1]
        by_cases h2 : w = 2
        · rw [if_pos h2, if_pos h2, p6]; exact ⟨_, _, _, rfl, rfl, fin⟩
        · rw [if_neg h2, if_neg h2]
          by_cases h3 : w = 3
          · rw [if_pos h3, if_pos h3, bd_eq (bd_eq (bd_eq (bc_eq p8 (b32 hz hb)))), bd_eq (ans_ok hz (I := I) hR.1 hR.2.1.2.2.2.2.2.2.2.1 hr hb p9)]; exact ⟨_, _, _, rfl, rfl, fin⟩
          · rw [if_neg h3, if_neg h3]
            by_cases h4 : w = 4
            · rw [if_pos h4, if_pos h4, p10]; exact ⟨_, _, _, rfl, rfl, fin⟩
            · rw [if_neg h4, if_neg h4]; exact ⟨_, _, _, rfl, rfl, fin⟩
theorem busy_ok {N W Q r : Nat} (hr : r < 2) {K : Nat → Nat × Nat} {I J : Nat → Nat → Int32} (hR : R0 N W Q I J) (q2 : fn_MD_isRecoverer (fw_k LMl) J (nI (r + 1)) = some (1, J)) : (fn_RC_isBusy K I (29 + 3 * N + r) = some (0, I) ∧ fn_MD_busy (fw_k LMl) J 0 (nI (r + 1)) = some (0, J)) ∨ ∃ m, 1 ≤ m ∧ m ≤ 3 ∧ J 9 (r + 1) = nI m ∧ fn_RC_isBusy K I (29 + 3 * N + r) = some (1, I) ∧ fn_MD_busy (fw_k LMl) J 0 (nI (r + 1)) = some (1, J) := by
  obtain ⟨p1, p2, p3, ⟨m, hm, p4⟩, -⟩ := hR.2.2.2.2 r hr
  unfold fn_RC_isBusy fn_MD_busy
  rw [bd_eq q2, if_neg (show ¬ (1 : Int32) = 0 by decide), m_mode hR.1, bd_eq q2, if_neg (show ¬ (1 : Int32) = 0 by decide), gd_eq (g_mode (by omega)), ncl (by omega), m_mode hR.1, bd_eq q2, if_neg (show ¬ (1 : Int32) = 0 by decide), gd_eq (g_mode (by omega)), p3, p4]
  match m, hm with
  | 0, _ => exact Or.inl ⟨by rw [if_pos (show nI 0 = (0 : Int32) from rfl)], by rw [if_pos (show nI 0 ≤ (0 : Int32) by decide)]⟩
  | 1, _ => exact Or.inr ⟨1, by omega, by omega, rfl, by rw [if_neg (by decide), if_neg (by decide)], by rw [if_neg (by decide), if_neg (by decide)]⟩
  | 2, _ => exact Or.inr ⟨2, by omega, by omega, rfl, by rw [if_neg (by decide), if_neg (by decide)], by rw [if_neg (by decide), if_neg (by decide)]⟩
  | 3, _ => exact Or.inr ⟨3, by omega, by omega, rfl, by rw [if_neg (by decide), if_neg (by decide)], by rw [if_neg (by decide), if_neg (by decide)]⟩
  | 4, _ => exact Or.inl ⟨by rw [if_neg (by decide), if_pos (show nI 4 = (4 : Int32) from rfl)], by rw [if_neg (by decide), if_pos (show (4 : Int32) ≤ nI 4 by decide)]⟩
theorem busy_no {J : Nat → Nat → Int32} {v : Int32} (q2 : fn_MD_isRecoverer (fw_k LMl) J v = some (0, J)) : fn_MD_busy (fw_k LMl) J 0 v = some (0, J) := by
  unfold fn_MD_busy
  rw [bd_eq q2, if_pos rfl]
theorem op_retry {N W Q : Nat} (hz : sz N W Q) {K : Nat → Nat × Nat} (hK : kX N K) (v : Int32) : lw_i (Rel N W Q) (fun I => fn_FL_retry K I 0 v) (fun J => fn_MD_retry (fw_k LMl) J 0 v) := by
  intro I J hh
  obtain ⟨hR, cnt, t, h, hC⟩ := hh.thr (x := 0)
  show ∃ r I2 J2, fn_FL_retry K I 0 v = some (r, I2) ∧ fn_MD_retry (fw_k LMl) J 0 v = some (r, J2) ∧ Rel N W Q I2 J2
  unfold fn_FL_retry fn_MD_retry
  rw [let_eq]
  generalize fw_up2 J 0 0 0 = J1 at hR hC ⊢
  clear hh J
  have z2 := hz.2.1
  have fin : Rel N W Q I J1 := ⟨hR, cnt, t, h, hC⟩
  rcases rc_arg (K := K) (I := I) (J := J1) v with ⟨q1, q2⟩ | ⟨r, hr, rfl, q1, q2⟩
  · rw [bd_eq q1, bd_eq (busy_no q2), if_pos rfl, if_pos rfl]; exact ⟨_, _, _, rfl, rfl, fin⟩
  · rw [bd_eq q1, if_neg (show ¬ (1 : Int32) = 0 by decide), x_rec hK z2 hR.2.1, sub_1, gd_eq (xg_r hK hr), ncl (by omega), x_r hK z2 hR.2.2.2.2 hr]
    rcases busy_ok hr (K := K) hR q2 with ⟨b1, b2⟩ | ⟨m, m1, m2, m3, b1, b2⟩
    · rw [bd_eq b1, bd_eq b2, if_pos rfl, if_pos rfl]; exact ⟨_, _, _, rfl, rfl, fin⟩
    · obtain ⟨n', I', J', cnt', c1, c2, c3, c4, c5⟩ := step_ok hz hK hr hR hC m3 m1 m2
      rw [bd_eq b1, bd_eq b2, if_neg (show ¬ (1 : Int32) = 0 by decide), if_neg (show ¬ (1 : Int32) = 0 by decide), x_rec hK z2 hR.2.1, gd_eq (xg_r hK hr), x_r hK z2 hR.2.2.2.2 hr, bd_eq c1, bd_eq c2]
      exact ⟨_, _, _, rfl, rfl, c3, _, _, _, c4⟩
theorem op_abandon {N W Q : Nat} (hz : sz N W Q) {K : Nat → Nat × Nat} (hK : kX N K) (v : Int32) : lw_i (Rel N W Q) (fun I => fn_FL_abandon K I 0 v) (fun J => fn_MD_abandon (fw_k LMl) J 0 v) := by
  intro I J hh
  obtain ⟨hR, cnt, t, h, hC⟩ := hh.thr (x := 0)
  show ∃ r I2 J2, fn_FL_abandon K I 0 v = some (r, I2) ∧ fn_MD_abandon (fw_k LMl) J 0 v = some (r, J2) ∧ Rel N W Q I2 J2
  unfold fn_FL_abandon fn_MD_abandon
  rw [let_eq]
  generalize fw_up2 J 0 0 0 = J1 at hR hC ⊢
  clear hh J
  have z2 := hz.2.1
  have fin : Rel N W Q I J1 := ⟨hR, cnt, t, h, hC⟩
  rcases rc_arg (K := K) (I := I) (J := J1) v with ⟨q1, q2⟩ | ⟨r, hr, rfl, q1, q2⟩
  · rw [bd_eq q1, bd_eq (busy_no q2), if_pos rfl, if_pos rfl]; exact ⟨_, _, _, rfl, rfl, fin⟩
  · rw [bd_eq q1, if_neg (show ¬ (1 : Int32) = 0 by decide), x_rec hK z2 hR.2.1, sub_1, gd_eq (xg_r hK hr), ncl (by omega), x_r hK z2 hR.2.2.2.2 hr]
    rcases busy_ok hr (K := K) hR q2 with ⟨b1, b2⟩ | ⟨m, m1, m2, m3, b1, b2⟩
    · rw [bd_eq b1, bd_eq b2, if_pos rfl, if_pos rfl]; exact ⟨_, _, _, rfl, rfl, fin⟩
    · obtain ⟨c1, c2⟩ := hR.mode hr (m := 0) (by omega)
      rw [bd_eq b1, bd_eq b2, if_neg (show ¬ (1 : Int32) = 0 by decide), if_neg (show ¬ (1 : Int32) = 0 by decide), x_rec hK z2 hR.2.1, gd_eq (xg_r hK hr), x_r hK z2 hR.2.2.2.2 hr, m_mode hR.1, gd_eq (g_mode (by omega)), let_eq, let_eq, ncl (by omega)]
      exact ⟨_, _, _, rfl, rfl, c1, _, _, _, hC.fr c2⟩
theorem op_recover {N W Q : Nat} (hz : sz N W Q) {K : Nat → Nat × Nat} (hK : kX N K) (v : Int32) : lw_i (Rel N W Q) (fun I => fn_FL_recover K I 0 v) (fun J => fn_MD_recover (fw_k LMl) J 0 v) := by
  intro I J hh
  obtain ⟨hR, cnt, t, h, hC⟩ := hh.thr (x := 0)
  show ∃ r I2 J2, fn_FL_recover K I 0 v = some (r, I2) ∧ fn_MD_recover (fw_k LMl) J 0 v = some (r, J2) ∧ Rel N W Q I2 J2
  unfold fn_FL_recover fn_MD_recover
  rw [let_eq]
  generalize fw_up2 J 0 0 0 = J1 at hR hC ⊢
  clear hh J
  have z2 := hz.2.1
  have fin : Rel N W Q I J1 := ⟨hR, cnt, t, h, hC⟩
  rcases rc_arg (K := K) (I := I) (J := J1) v with ⟨q1, q2⟩ | ⟨r, hr, rfl, q1, q2⟩
  · rw [bd_eq q1, bd_eq q2, if_pos rfl, if_pos rfl]; exact ⟨_, _, _, rfl, rfl, fin⟩
  · obtain ⟨p1, p2, p3, p4, p5, p6, p7, p8, p10, p11, p12⟩ := hR.2.2.2.2 r hr
    have e1 : I 0 7 = J1 0 9 := hR.2.1.2.2.2.2.2.2.2.2.2.2.1
    have e2 : I 0 8 = J1 0 10 := hR.2.1.2.2.2.2.2.2.2.2.2.2.2.1
    rw [bd_eq q1, bd_eq q2, if_neg (show ¬ (1 : Int32) = 0 by decide), if_neg (show ¬ (1 : Int32) = 0 by decide), x_rec hK z2 hR.2.1, sub_1, gd_eq (xg_r hK hr), ncl (show r < 1000 by omega), x_r hK z2 hR.2.2.2.2 hr, x_rec hK z2 hR.2.1, gd_eq (xg_r hK hr), x_r hK z2 hR.2.2.2.2 hr, m_mode hR.1, gd_eq (g_mode (by omega)), ncl (by omega), p3, e1]
    by_cases h0 : J1 9 (r + 1) = 0
    · rw [if_pos h0, if_pos h0]
      by_cases h1 : J1 0 9 = 2
      · obtain ⟨c1, c2⟩ := hR.mode hr (m := 4) (by omega)
        rw [if_pos h1, if_pos h1, m_mode hR.1, gd_eq (g_mode (by omega)), let_eq, let_eq]
        exact ⟨_, _, _, rfl, rfl, c1, _, _, _, hC.fr c2⟩
      · obtain ⟨a1, b1⟩ := hR.l7 (x := 1)
        obtain ⟨a2, b2⟩ := a1.l8 (x := J1 0 10 + 1)
        obtain ⟨a3, b3⟩ := a2.term hr (x := J1 0 10 + 1)
        obtain ⟨J4, g4, ⟨a4, b4⟩, q4⟩ := forget_ok a3 hr
        obtain ⟨a5, b5⟩ := a4.high hr (x := -1) ⟨0, by omega, rfl⟩
        obtain ⟨a6, b6⟩ := a5.mode hr (m := 1) (by omega)
        have f := ((((b1.tr b2).tr b3).tr b4).tr b5).tr b6
        obtain ⟨n', I', J', cnt', c1, c2, c3, c4, c5⟩ := step_ok hz hK hr a6 (hC.fr f) (m := 1) (by rw [up_at]) (by omega) (by omega)
        have eC : (fw_let (fw_up2 I 0 7 1) fun I13 => fw_let (fw_up2 I13 0 8 (I13 0 8 + 1)) fun I14 => fw_bv (fn_RC_beginFencing K I14 (29 + 3 * N + r) (I14 0 8)) fun I15 => fw_bd (fn_FL_sendStep K I15 0 (29 + 3 * N + r)) fun r19 I17 => some ((1 : Int32), I17)) = some (1, I') := by
          rw [let_eq, up_nj (j := 7) (j' := 8) (by decide), e2, let_eq, up_at (j := 8)]
          unfold fn_RC_beginFencing
          rw [let_eq, let_eq, let_eq, let_eq]
          exact (bv_eq rfl).trans (bd_eq c1)
        have eM : (fw_let (fw_up2 J1 0 9 1) fun I10 => fw_let (fw_up2 I10 0 10 (I10 0 10 + 1)) fun I11 => fw_ld (fw_k LMl) (I11 0 20) 20 fun a12 => fw_gd (fw_ix (nI (r + 1)) (fw_k LMl a12).2) <| fw_let (fw_up2 I11 a12 (r + 1) (I11 0 10)) fun I14 => fw_bv (fn_MD_forget (fw_k LMl) I14 0 (nI (r + 1))) fun I15 => fw_ld (fw_k LMl) (I15 0 22) 20 fun a17 => fw_gd (fw_ix (nI (r + 1)) (fw_k LMl a17).2) <| fw_let (fw_up2 I15 a17 (r + 1) (-1 : Int32)) fun I19 => fw_ld (fw_k LMl) (I19 0 19) 20 fun a20 => fw_gd (fw_ix (nI (r + 1)) (fw_k LMl a20).2) <| fw_let (fw_up2 I19 a20 (r + 1) (1 : Int32)) fun I22 => fw_bd (fn_MD_ask (fw_k LMl) I22 0 (nI (r + 1))) fun r25 I23 => some ((1 : Int32), I23)) = some (1, J') := by
          rw [let_eq, up_nj (j := 9) (j' := 10) (by decide), let_eq, m_term a2.1, gd_eq (g_term (by omega)), up_at (j := 10), let_eq, bv_eq g4, m_high a4.1, gd_eq (g_high (by omega)), let_eq, m_mode a5.1, gd_eq (g_mode (by omega)), let_eq]
          exact bd_eq c2
        rw [if_neg h1, if_neg h1]
        exact ⟨1, I', J', eC, eM, c3, _, _, _, c4⟩
    · rw [if_neg h0, if_neg h0]; exact ⟨_, _, _, rfl, rfl, fin⟩
