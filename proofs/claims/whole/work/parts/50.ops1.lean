/-! the public methods: what they are called with -/
theorem arg_ok {v : Int32} {c : Nat} (hc : c < 1000) : (v < 0 ∨ (¬ v < 0 ∧ nI c ≤ v)) ∨ ∃ i, i < c ∧ v = nI i ∧ ¬ v < 0 ∧ ¬ nI c ≤ v := by
  by_cases h1 : v < 0
  · exact Or.inl (Or.inl h1)
  · by_cases h2 : nI c ≤ v
    · exact Or.inl (Or.inr ⟨h1, h2⟩)
    · have h3 := h1
      have h4 := h2
      rw [Int32.lt_iff_toInt_lt, show (0 : Int32).toInt = 0 from rfl] at h3
      rw [Int32.le_iff_toInt_le, nI_toInt (by omega)] at h4
      refine Or.inr ⟨v.toInt.toNat, by omega, ?_, h1, h2⟩
      apply Int32.toInt_inj.mp
      rw [nI_toInt (by omega)]
      omega
theorem le_out {v : Int32} {c : Nat} (hc : c < 1000) (h : nI (c + 1) ≤ v) : ¬ v ≤ nI c := by
  rw [Int32.le_iff_toInt_le, nI_toInt (by omega)] at h
  rw [Int32.le_iff_toInt_le, nI_toInt (by omega)]
  omega
theorem ne_out {v : Int32} {c i : Nat} (hc : c < 1000) (hi : i < c) (h : v < 0 ∨ (¬ v < 0 ∧ nI c ≤ v)) : ¬ v = nI i := by
  intro q
  subst q
  rcases h with h | ⟨-, h⟩
  · exact absurd h (nnlt (a := i) (b := 0) (by omega) (by omega))
  · exact absurd h (nnle hi hc)
theorem st_arg {N W Q : Nat} (hz : sz N W Q) {K : Nat → Nat × Nat} {I J : Nat → Nat → Int32} (hR : R0 N W Q I J) (v : Int32) : (fn_FL_isStore K I 0 v = some (0, I) ∧ fn_MD_isStore (fw_k LMl) J 0 v = some (0, J)) ∨ ∃ s, s < N ∧ v = nI s ∧ fn_FL_isStore K I 0 v = some (1, I) ∧ fn_MD_isStore (fw_k LMl) J 0 v = some (1, J) := by
  have z2 := hz.2.1
  unfold fn_FL_isStore fn_MD_isStore
  rw [hR.2.1.1, hR.2.1.2.2.2.2.2.2.2.1]
  rcases arg_ok (v := v) (c := N) (by omega) with (q | ⟨q1, q2⟩) | ⟨i, q1, q2, q3, q4⟩
  · rw [if_pos q, if_pos q]; exact Or.inl ⟨rfl, rfl⟩
  · rw [if_neg q1, if_pos q2, if_neg q1, if_pos q2]; exact Or.inl ⟨rfl, rfl⟩
  · rw [if_neg q3, if_neg q4, if_neg q3, if_neg q4]; exact Or.inr ⟨i, q1, q2, rfl, rfl⟩
theorem rc_arg {K : Nat → Nat × Nat} {I J : Nat → Nat → Int32} (v : Int32) : (fn_FL_isRecoverer K I v = some (0, I) ∧ fn_MD_isRecoverer (fw_k LMl) J v = some (0, J)) ∨ ∃ r, r < 2 ∧ v = nI (r + 1) ∧ fn_FL_isRecoverer K I v = some (1, I) ∧ fn_MD_isRecoverer (fw_k LMl) J v = some (1, J) := by
  unfold fn_FL_isRecoverer fn_MD_isRecoverer
  by_cases h1 : v = 1
  · subst h1
    exact Or.inr ⟨0, by omega, rfl, by rw [if_neg (by decide), if_neg (by decide)], by rw [if_pos rfl]⟩
  · by_cases h2 : v = 2
    · subst h2
      exact Or.inr ⟨1, by omega, rfl, by rw [if_neg (by decide), if_neg (by decide)], by rw [if_neg (by decide), if_pos rfl]⟩
    · refine Or.inl ⟨?_, by rw [if_neg h1, if_neg h2]⟩
      by_cases h3 : v < 1
      · rw [if_pos h3]
      · by_cases h4 : (2 : Int32) < v
        · rw [if_neg h3, if_pos h4]
        · exfalso
          rw [Int32.lt_iff_toInt_lt, show (1 : Int32).toInt = 1 from rfl] at h3
          rw [Int32.lt_iff_toInt_lt, show (2 : Int32).toInt = 2 from rfl] at h4
          have h5 : v.toInt = 1 ∨ v.toInt = 2 := by omega
          rcases h5 with h5 | h5
          · exact h1 (Int32.toInt_inj.mp (h5.trans (show (1 : Int) = (1 : Int32).toInt from rfl)))
          · exact h2 (Int32.toInt_inj.mp (h5.trans (show (2 : Int) = (2 : Int32).toInt from rfl)))
theorem ms_arg {N cnt t : Nat} {K : Nat → Nat × Nat} {h : Nat → Nat} {I J : Nat → Nat → Int32} (hC : pC N I J cnt t h) (v : Int32) : (fn_CH_holds K I (2 + 3 * N) v = some (0, I) ∧ fn_MD_isMessage (fw_k LMl) J 0 v = some (0, J)) ∨ ∃ i, i < cnt ∧ v = nI i ∧ fn_CH_holds K I (2 + 3 * N) v = some (1, I) ∧ fn_MD_isMessage (fw_k LMl) J 0 v = some (1, J) := by
  have c1 := hC.1
  unfold fn_CH_holds fn_MD_isMessage
  rw [hC.2.2.2.2.1, hC.2.2.2.2.2.1]
  rcases arg_ok (v := v) (c := cnt) (by omega) with (q | ⟨q1, q2⟩) | ⟨i, q1, q2, q3, q4⟩
  · rw [if_pos q, if_pos q]; exact Or.inl ⟨rfl, rfl⟩
  · rw [if_neg q1, if_pos q2, if_neg q1, if_pos q2]; exact Or.inl ⟨rfl, rfl⟩
  · rw [if_neg q3, if_neg q4, if_neg q3, if_neg q4]; exact Or.inr ⟨i, q1, q2, rfl, rfl⟩
theorem R0.take {N W Q : Nat} {I I' J J' : Nat → Nat → Int32} (h : R0 N W Q I J) (hI : ∀ k, k ≠ 2 + 3 * N → k ≠ 3 + 3 * N → I' k = I k) (hJ : ∀ k, k ≠ 0 → k ≠ 6 → J' k = J k) (h0 : ∀ j, j ≠ 12 → J' 0 j = J 0 j) : R0 N W Q I' J' := by
  obtain ⟨h1, h2, h3, h4, h5⟩ := h
  exact ⟨h1.keep (fun j _ => h0 j (by omega)), h2.keep (hI 0 (by omega) (by omega)) (fun j _ => h0 j (by omega)), h3.keep (fun k _ _ => hI k (by omega) (by omega)) (fun k _ _ => hJ k (by omega) (by omega)), h4.keep (fun k _ _ => hI k (by omega) (by omega)) (hJ 7 (by omega) (by omega)) (hJ 8 (by omega) (by omega)) (fun j _ _ => h0 j (by omega)), h5.keep (fun k _ => hI k (by omega) (by omega)) (fun k _ _ => hJ k (by omega) (by omega))⟩
theorem R0.wst {N W Q : Nat} {I J : Nat → Nat → Int32} (h : R0 N W Q I J) {x : Int32} : R0 N W Q (fw_up2 I (25 + 3 * N) 2 x) (fw_up2 J 0 14 x) ∧ frC N I (fw_up2 I (25 + 3 * N) 2 x) J (fw_up2 J 0 14 x) := by
  obtain ⟨w1, w2, w3, ⟨a, l, ha, hl, w4, w5, w6, w7⟩, w8⟩ := h.2.2.2.1
  refine h.wr (fun k _ => up_row (by omega)) (fun k h _ _ => up_row h) (fun j _ => by rw [up_ap, if_neg (by omega)]) ⟨?_, ?_, ?_, ⟨a, l, ha, hl, ?_, ?_, ?_, ?_⟩, fun e' he' => ?_⟩
  · rw [up_nj (by omega)]; exact w1
  · rw [up_nj (by omega)]; exact w2
  · rw [up_at, up_at]
  · rw [up_nj (by omega)]; exact w4
  · rw [up_nj (by omega)]; exact w5
  · rw [up_nj (by omega)]; exact w6
  · rw [up_nj (by omega)]; exact w7
  · rw [up_row (by omega), up_row (k' := 7) (by decide), up_row (by omega), up_row (k' := 8) (by decide)]
    exact w8 e' he'
theorem msd_in {K : Nat → Nat × Nat} {I : Nat → Nat → Int32} {k j : Nat} (hj : j < 7) : fn_MS_detail K I k (nI j) = some (I k j, I) := by
  unfold fn_MS_detail
  match j, hj with
  | 0, _ => rw [if_pos (show nI 0 = (0 : Int32) from rfl)]
  | 1, _ => rw [if_neg (by decide), if_pos (show nI 1 = (1 : Int32) from rfl)]
  | 2, _ => rw [if_neg (by decide), if_neg (by decide), if_pos (show nI 2 = (2 : Int32) from rfl)]
  | 3, _ => rw [if_neg (by decide), if_neg (by decide), if_neg (by decide), if_pos (show nI 3 = (3 : Int32) from rfl)]
  | 4, _ => rw [if_neg (by decide), if_neg (by decide), if_neg (by decide), if_neg (by decide), if_pos (show nI 4 = (4 : Int32) from rfl)]
  | 5, _ => rw [if_neg (by decide), if_neg (by decide), if_neg (by decide), if_neg (by decide), if_neg (by decide), if_pos (show nI 5 = (5 : Int32) from rfl)]
  | 6, _ => rw [if_neg (by decide), if_neg (by decide), if_neg (by decide), if_neg (by decide), if_neg (by decide), if_neg (by decide), if_pos (show nI 6 = (6 : Int32) from rfl)]
theorem msd_out {K : Nat → Nat × Nat} {I : Nat → Nat → Int32} {k : Nat} {v : Int32} (h : v < 0 ∨ (¬ v < 0 ∧ nI 7 ≤ v)) : fn_MS_detail K I k v = some (-1, I) := by
  unfold fn_MS_detail
  rw [if_neg (show ¬ v = (0 : Int32) from ne_out (i := 0) (by omega) (by omega) h), if_neg (show ¬ v = (1 : Int32) from ne_out (i := 1) (by omega) (by omega) h), if_neg (show ¬ v = (2 : Int32) from ne_out (i := 2) (by omega) (by omega) h), if_neg (show ¬ v = (3 : Int32) from ne_out (i := 3) (by omega) (by omega) h), if_neg (show ¬ v = (4 : Int32) from ne_out (i := 4) (by omega) (by omega) h), if_neg (show ¬ v = (5 : Int32) from ne_out (i := 5) (by omega) (by omega) h), if_neg (show ¬ v = (6 : Int32) from ne_out (i := 6) (by omega) (by omega) h)]
theorem op_flight {N W Q : Nat} (hz : sz N W Q) {K : Nat → Nat × Nat} (hK : kX N K) : lw_i (Rel N W Q) (fun I => fn_FL_flight K I 0) (fun J => fn_MD_flight (fw_k LMl) J 0) := by
  intro I J hh
  obtain ⟨hR, cnt, t, h, hC⟩ := hh.thr (x := 0)
  show ∃ r I2 J2, fn_FL_flight K I 0 = some (r, I2) ∧ fn_MD_flight (fw_k LMl) J 0 = some (r, J2) ∧ Rel N W Q I2 J2
  unfold fn_FL_flight fn_MD_flight
  rw [let_eq]
  generalize fw_up2 J 0 0 0 = J1 at hR hC ⊢
  clear hh J
  have z2 := hz.2.1
  have fin : Rel N W Q I J1 := ⟨hR, cnt, t, h, hC⟩
  exact ⟨nI cnt, I, J1, by rw [x_ch hK z2 hR.2.1, hC.2.2.2.2.1], by rw [hC.2.2.2.2.2.1], fin⟩
theorem op_writer {N W Q : Nat} (hz : sz N W Q) {K : Nat → Nat × Nat} (hK : kX N K) (v : Int32) : lw_i (Rel N W Q) (fun I => fn_FL_writer K I 0 v) (fun J => fn_MD_writer (fw_k LMl) J 0 v) := by
  intro I J hh
  obtain ⟨hR, cnt, t, h, hC⟩ := hh.thr (x := 0)
  show ∃ r I2 J2, fn_FL_writer K I 0 v = some (r, I2) ∧ fn_MD_writer (fw_k LMl) J 0 v = some (r, J2) ∧ Rel N W Q I2 J2
  unfold fn_FL_writer fn_MD_writer
  rw [let_eq]
  generalize fw_up2 J 0 0 0 = J1 at hR hC ⊢
  clear hh J
  have z2 := hz.2.1
  have fin : Rel N W Q I J1 := ⟨hR, cnt, t, h, hC⟩
  obtain ⟨w1, w2, w3, ⟨a, l, ha, hl, w4, w5, w6, w7⟩, w8⟩ := hR.2.2.2.1
  rw [x_wr hK z2 hR.2.1, x_wr hK z2 hR.2.1, x_wr hK z2 hR.2.1, w3, w4, w5, w6, w7]
  by_cases h0 : v = 0
  · rw [if_pos h0, if_pos h0]; exact ⟨_, _, _, rfl, rfl, fin⟩
  · rw [if_neg h0, if_neg h0]
    by_cases h1 : v = 1
    · rw [if_pos h1, if_pos h1]; exact ⟨_, _, _, rfl, rfl, fin⟩
    · rw [if_neg h1, if_neg h1]
      by_cases h2 : v = 2
      · rw [if_pos h2, if_pos h2]; exact ⟨_, _, _, rfl, rfl, fin⟩
      · rw [if_neg h2, if_neg h2]; exact ⟨_, _, _, rfl, rfl, fin⟩
theorem op_ledger {N W Q : Nat} (hz : sz N W Q) {K : Nat → Nat × Nat} (hK : kX N K) (v : Int32) : lw_i (Rel N W Q) (fun I => fn_FL_ledger K I 0 v) (fun J => fn_MD_ledger (fw_k LMl) J 0 v) := by
  intro I J hh
  obtain ⟨hR, cnt, t, h, hC⟩ := hh.thr (x := 0)
  show ∃ r I2 J2, fn_FL_ledger K I 0 v = some (r, I2) ∧ fn_MD_ledger (fw_k LMl) J 0 v = some (r, J2) ∧ Rel N W Q I2 J2
  unfold fn_FL_ledger fn_MD_ledger
  rw [let_eq]
  generalize fw_up2 J 0 0 0 = J1 at hR hC ⊢
  clear hh J
  have z2 := hz.2.1
  have fin : Rel N W Q I J1 := ⟨hR, cnt, t, h, hC⟩
  have e1 : I 0 7 = J1 0 9 := hR.2.1.2.2.2.2.2.2.2.2.2.2.1
  have e2 : I 0 8 = J1 0 10 := hR.2.1.2.2.2.2.2.2.2.2.2.2.2.1
  have e3 : I 0 9 = J1 0 11 := hR.2.1.2.2.2.2.2.2.2.2.2.2.2.2.1
  rw [e1, e2, e3]
  by_cases h0 : v = 0
  · rw [if_pos h0, if_pos h0]; exact ⟨_, _, _, rfl, rfl, fin⟩
  · rw [if_neg h0, if_neg h0]
    by_cases h1 : v = 1
    · rw [if_pos h1, if_pos h1]; exact ⟨_, _, _, rfl, rfl, fin⟩
    · rw [if_neg h1, if_neg h1]
      by_cases h2 : v = 2
      · rw [if_pos h2, if_pos h2]
        by_cases h3 : J1 0 9 = 2
        · rw [if_pos h3, if_pos h3]; exact ⟨_, _, _, rfl, rfl, fin⟩
        · rw [if_neg h3, if_neg h3]; exact ⟨_, _, _, rfl, rfl, fin⟩
      · rw [if_neg h2, if_neg h2]; exact ⟨_, _, _, rfl, rfl, fin⟩
theorem op_message {N W Q : Nat} (hz : sz N W Q) {K : Nat → Nat × Nat} (hK : kX N K) (v w : Int32) : lw_i (Rel N W Q) (fun I => fn_FL_message K I 0 v w) (fun J => fn_MD_message (fw_k LMl) J 0 v w) := by
  intro I J hh
  obtain ⟨hR, cnt, t, h, hC⟩ := hh.thr (x := 0)
  show ∃ r I2 J2, fn_FL_message K I 0 v w = some (r, I2) ∧ fn_MD_message (fw_k LMl) J 0 v w = some (r, J2) ∧ Rel N W Q I2 J2
  unfold fn_FL_message fn_MD_message
  rw [let_eq]
  generalize fw_up2 J 0 0 0 = J1 at hR hC ⊢
  clear hh J
  have z2 := hz.2.1
  have fin : Rel N W Q I J1 := ⟨hR, cnt, t, h, hC⟩
  rw [x_ch hK z2 hR.2.1]
  rcases ms_arg (K := K) hC v with ⟨q1, q2⟩ | ⟨i, hi, rfl, q1, q2⟩
  · rw [bd_eq q1, bd_eq q2, if_pos rfl, if_pos rfl]; exact ⟨_, _, _, rfl, rfl, fin⟩
  · obtain ⟨c1, c2, c3, c4, c5, c6, c7, c8, c9⟩ := hC
    rw [bd_eq q1, bd_eq q2, if_neg (show ¬ (1 : Int32) = 0 by decide), if_neg (show ¬ (1 : Int32) = 0 by decide), x_ch hK z2 hR.2.1, ld_eq c3 (by omega) (by rw [hK.2.2.2.2.1]), gd_eq (ix_eq rfl (by rw [hK.2.2.2.2.1]; show i < 20; omega) (by omega)), ncl (by omega), ld_eq (c7 i (by omega)).1 (by have := (c7 i (by omega)).2.1; omega) (hK.2.2.2.2.2.1 _ (c7 i (by omega)).2.1), m_fly hR.1, n7]
    rcases arg_ok (v := w) (c := 7) (by omega) with q | ⟨j, hj, rfl, q3, q4⟩
    · rw [bd_eq (msd_out q)]
      rcases q with q | ⟨q3, q4⟩
      · rw [if_pos q]; exact ⟨_, _, _, rfl, rfl, fin⟩
      · rw [if_neg q3, if_pos (show (7 : Int32) ≤ w from q4)]; exact ⟨_, _, _, rfl, rfl, fin⟩
    · rw [bd_eq (msd_in hj), if_neg q3, if_neg (show ¬ (7 : Int32) ≤ nI j from q4), nI_add, gd_eq (g_fly (by omega)), ncl (by omega), (c9 i hi).1 j hj]
      exact ⟨_, _, _, rfl, rfl, fin⟩
theorem op_lose {N W Q : Nat} (hz : sz N W Q) {K : Nat → Nat × Nat} (hK : kX N K) (v : Int32) : lw_i (Rel N W Q) (fun I => fn_FL_lose K I 0 v) (fun J => fn_MD_lose (fw_k LMl) J 0 v) := by
  intro I J hh
  obtain ⟨hR, cnt, t, h, hC⟩ := hh.thr (x := 0)
  show ∃ r I2 J2, fn_FL_lose K I 0 v = some (r, I2) ∧ fn_MD_lose (fw_k LMl) J 0 v = some (r, J2) ∧ Rel N W Q I2 J2
  unfold fn_FL_lose fn_MD_lose
  rw [let_eq]
  generalize fw_up2 J 0 0 0 = J1 at hR hC ⊢
  clear hh J
  have z2 := hz.2.1
  have fin : Rel N W Q I J1 := ⟨hR, cnt, t, h, hC⟩
  rw [x_ch hK z2 hR.2.1]
  rcases ms_arg (K := K) hC v with ⟨q1, q2⟩ | ⟨i, hi, rfl, q1, q2⟩
  · rw [bd_eq q1, bd_eq q2, if_pos rfl, if_pos rfl]; exact ⟨_, _, _, rfl, rfl, fin⟩
  · have hh := (hC.2.2.2.2.2.2.1 i (by have := hC.1; omega)).2.1
    obtain ⟨I', J', a1, a2, a3, a4, a5, a6⟩ := take_ok hK z2 hR.1 hC hi
    rw [bd_eq q1, bd_eq q2, if_neg (show ¬ (1 : Int32) = 0 by decide), if_neg (show ¬ (1 : Int32) = 0 by decide), x_ch hK z2 hR.2.1, bd_eq a1, ld_eq rfl (by omega) (hK.2.2.2.2.2.1 _ hh), bv_eq a2]
    exact ⟨_, _, _, rfl, rfl, hR.take a4 a5 a6, _, _, _, a3⟩
theorem op_close {N W Q : Nat} (hz : sz N W Q) {K : Nat → Nat × Nat} (hK : kX N K) : lw_i (Rel N W Q) (fun I => fn_FL_close K I 0) (fun J => fn_MD_close (fw_k LMl) J 0) := by
  intro I J hh
  obtain ⟨hR, cnt, t, h, hC⟩ := hh.thr (x := 0)
  show ∃ r I2 J2, fn_FL_close K I 0 = some (r, I2) ∧ fn_MD_close (fw_k LMl) J 0 = some (r, J2) ∧ Rel N W Q I2 J2
  unfold fn_FL_close fn_MD_close
  rw [let_eq]
  generalize fw_up2 J 0 0 0 = J1 at hR hC ⊢
  clear hh J
  have z2 := hz.2.1
  have fin : Rel N W Q I J1 := ⟨hR, cnt, t, h, hC⟩
  obtain ⟨w1, w2, w3, ⟨a, l, ha, hl, w4, w5, w6, w7⟩, w8⟩ := hR.2.2.2.1
  have e1 : I 0 7 = J1 0 9 := hR.2.1.2.2.2.2.2.2.2.2.2.2.1
  rw [x_wr hK z2 hR.2.1, w3, e1]
  by_cases h0 : J1 0 14 = 0
  · rw [if_pos h0, if_pos h0]
    by_cases h1 : J1 0 9 = 0
    · obtain ⟨I2, J2, a1, a2, ⟨a3, a4⟩, a5⟩ := shut_ok (K := K) hR (x := nI l - 1) ⟨l, by omega, rfl⟩
      obtain ⟨b1, b2⟩ := a3.wst (x := 2)
      rw [if_pos h1, if_pos h1, x_wr hK z2 hR.2.1, w6, bv_eq a1, x_wr hK z2 a3.2.1, let_eq, let_eq, up_nj (j := 9) (j' := 16) (by decide), w7, let_eq, up_nj (j := 11) (j' := 10) (by decide), up_nj (j := 9) (j' := 10) (by decide), let_eq, a2, let_eq]
      exact ⟨_, _, _, rfl, rfl, b1, cnt, t, h, (hC.fr a4).fr b2⟩
    · rw [if_neg h1, if_neg h1]; exact ⟨_, _, _, rfl, rfl, fin⟩
  · rw [if_neg h0, if_neg h0]; exact ⟨_, _, _, rfl, rfl, fin⟩
theorem op_leave {N W Q : Nat} (hz : sz N W Q) {K : Nat → Nat × Nat} (hK : kX N K) : lw_i (Rel N W Q) (fun I => fn_FL_leave K I 0) (fun J => fn_MD_leave (fw_k LMl) J 0) := by
  intro I J hh
  obtain ⟨hR, cnt, t, h, hC⟩ := hh.thr (x := 0)
  show ∃ r I2 J2, fn_FL_leave K I 0 = some (r, I2) ∧ fn_MD_leave (fw_k LMl) J 0 = some (r, J2) ∧ Rel N W Q I2 J2
  unfold fn_FL_leave fn_MD_leave
  rw [let_eq]
  generalize fw_up2 J 0 0 0 = J1 at hR hC ⊢
  clear hh J
  have z2 := hz.2.1
  have fin : Rel N W Q I J1 := ⟨hR, cnt, t, h, hC⟩
  obtain ⟨w1, w2, w3, w4, w8⟩ := hR.2.2.2.1
  rw [x_wr hK z2 hR.2.1, x_wr hK z2 hR.2.1, w3]
  unfold fn_MD_leave_18
  rw [let_eq, let_eq, let_eq]
  by_cases h0 : J1 0 14 = 3
  · have e : fw_up2 J1 0 14 3 = J1 := by
      have q := up_self J1 0 14
      rw [h0] at q
      exact q
    rw [if_pos h0, if_pos h0, e, if_neg (show ¬ (1 : Int32) = 0 by decide)]
    exact ⟨_, _, _, rfl, rfl, fin⟩
  · obtain ⟨b1, b2⟩ := hR.wst (x := 3)
    rw [if_neg h0, if_neg h0, if_pos (show (0 : Int32) = 0 from rfl)]
    exact ⟨_, _, _, rfl, rfl, b1, cnt, t, h, hC.fr b2⟩
theorem op_power {N W Q : Nat} (hz : sz N W Q) {K : Nat → Nat × Nat} (hK : kX N K) (v w : Int32) (hw : w = 0 ∨ w = 1) : lw_i (Rel N W Q) (fun I => fn_FL_power K I 0 v w) (fun J => fn_MD_power (fw_k LMl) J 0 v w) := by
  intro I J hh
  obtain ⟨hR, cnt, t, h, hC⟩ := hh.thr (x := 0)
  show ∃ r I2 J2, fn_FL_power K I 0 v w = some (r, I2) ∧ fn_MD_power (fw_k LMl) J 0 v w = some (r, J2) ∧ Rel N W Q I2 J2
  unfold fn_FL_power fn_MD_power
  rw [let_eq]
  generalize fw_up2 J 0 0 0 = J1 at hR hC ⊢
  clear hh J
  have z2 := hz.2.1
  have fin : Rel N W Q I J1 := ⟨hR, cnt, t, h, hC⟩
  rcases st_arg hz (K := K) hR v with ⟨q1, q2⟩ | ⟨s, hs, rfl, q1, q2⟩
  · rw [bd_eq q1, bd_eq q2, if_pos rfl, if_pos rfl]; exact ⟨_, _, _, rfl, rfl, fin⟩
  · have noop : ∀ x, J1 1 s = x → fw_up2 J1 1 s x = J1 := fun x hx => by
      have q := up_self J1 1 s
      rw [hx] at q
      exact q
    rw [bd_eq q1, bd_eq q2, if_neg (show ¬ (1 : Int32) = 0 by decide), if_neg (show ¬ (1 : Int32) = 0 by decide), x_sto hK hR.2.1, gd_eq (xg_sto hK z2 hs), ncl (by omega), x_s hK z2 hR.2.2.1 hs, x_sto hK hR.2.1, gd_eq (xg_sto hK z2 hs), x_s hK z2 hR.2.2.1 hs, m_off hR.1, gd_eq (g_off (by omega))]
    unfold fn_MD_power_30
    rw [m_off hR.1, m_off hR.1, ncl (by omega)]
    rcases (hR.2.2.1 s hs).2.2.2.1 with ⟨i1, i2⟩ | ⟨i1, i2⟩
    · rcases hw with rfl | rfl
      · obtain ⟨b1, b2⟩ := hR.power hs (x := 0) (y := 1) (Or.inr ⟨rfl, rfl⟩)
        rw [i1, i2, if_neg (show ¬ (1 : Int32) = 0 by decide), if_pos (show (0 : Int32) = 0 from rfl), if_pos (show (0 : Int32) = 0 from rfl), gd_eq (show fw_bl (0 : Int32) = true by decide), gd_eq (g_off (by omega)), let_eq, let_eq, gd_eq (show fw_bl (1 : Int32) = true by decide)]
        exact ⟨_, _, _, rfl, rfl, b1, cnt, t, h, hC.fr b2⟩
      · rw [i1, i2, if_pos (show (1 : Int32) = 1 from rfl), if_neg (show ¬ (0 : Int32) = 1 by decide), if_neg (show ¬ (1 : Int32) = 0 by decide), gd_eq (g_off (by omega)), noop 0 i2, let_eq, gd_eq (show fw_bl (0 : Int32) = true by decide)]
        exact ⟨_, _, _, rfl, rfl, fin⟩
    · rcases hw with rfl | rfl
      · rw [i1, i2, if_pos (show (0 : Int32) = 0 from rfl), if_neg (show ¬ (1 : Int32) = 0 by decide), if_pos (show (0 : Int32) = 0 from rfl), gd_eq (g_off (by omega)), noop 1 i2, let_eq, gd_eq (show fw_bl (0 : Int32) = true by decide)]
        exact ⟨_, _, _, rfl, rfl, fin⟩
      · obtain ⟨b1, b2⟩ := hR.power hs (x := 1) (y := 0) (Or.inl ⟨rfl, rfl⟩)
        rw [i1, i2, if_neg (show ¬ (0 : Int32) = 1 by decide), if_pos (show (1 : Int32) = 1 from rfl), if_neg (show ¬ (1 : Int32) = 0 by decide), gd_eq (show fw_bl (1 : Int32) = true by decide), gd_eq (g_off (by omega)), let_eq, let_eq, gd_eq (show fw_bl (1 : Int32) = true by decide)]
        exact ⟨_, _, _, rfl, rfl, b1, cnt, t, h, hC.fr b2⟩
