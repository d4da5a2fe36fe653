/-! an answer reaches a recoverer -/
theorem aw_eq {K : Nat → Nat × Nat} {I : Nat → Nat → Int32} {k : Nat} {x y : Int32} : fn_RC_awaits K I k x y = some (if I k 1 = x ∧ I k 3 = y then 1 else 0, I) := by
  unfold fn_RC_awaits
  by_cases h1 : I k 1 = x
  · by_cases h2 : I k 3 = y
    · rw [if_pos h1, if_pos h2, if_pos ⟨h1, h2⟩]
    · rw [if_pos h1, if_neg h2, if_neg (fun q => h2 q.2)]
  · rw [if_neg h1, if_neg (fun q => h1 q.1)]
theorem rec_no {N W Q : Nat} {K : Nat → Nat × Nat} (hz : sz N W Q) (hK : kX N K) {I J : Nat → Nat → Int32} (hR : R0 N W Q I J) {k1 r : Nat} (hr : r < 2) (h1 : I k1 1 = nI (r + 1)) (hT : ¬ I k1 5 = J 10 (r + 1)) : fn_FL_reachRecoverer K I 0 k1 = some I := by
  have z2 := hz.2.1
  unfold fn_FL_reachRecoverer
  rw [x_rec hK z2 hR.2.1, h1, sub_1, gd_eq (xg_r hK hr), ncl (by omega), x_r hK z2 hR.2.2.2.2 hr, (hR.2.2.2.2 r hr).2.2.2.2.1, if_neg hT]
theorem rec_ok {N W Q : Nat} (hz : sz N W Q) {K : Nat → Nat × Nat} (hK : kX N K) {t r cnt s e kd : Nat} (hr : r < 2) {h : Nat → Nat} {I J : Nat → Nat → Int32} {v : Int32} (hR : R0 N W Q I J) (hC : pC N I J cnt t h) (hkd : 3 ≤ kd ∧ kd < 8) (h0 : I (4 + 3 * N + t) 0 = nI kd) (h1 : I (4 + 3 * N + t) 1 = nI (r + 1)) (h2 : I (4 + 3 * N + t) 2 = nI s) (h3 : I (4 + 3 * N + t) 3 = nI e) (h4 : I (4 + 3 * N + t) 4 = v) (hs : s < N) (he : e < 20) (hv : kd = 5 → mk v) (hT : I (4 + 3 * N + t) 5 = J 10 (r + 1)) :
    ∃ I' J' cnt', fn_FL_reachRecoverer K I 0 (4 + 3 * N + t) = some I' ∧ fn_MD_learns (fw_k LMl) J 0 (nI kd) (nI (r + 1)) (nI s) (nI e) v = some J' ∧ R0 N W Q I' J' ∧ pC N I' J' cnt' t h ∧ I' (4 + 3 * N + t) = I (4 + 3 * N + t) := by
  have z2 := hz.2.1
  have ht := hC.2.1
  obtain ⟨p1, p2, p3, p4, p5, p6, p7, -⟩ := hR.2.2.2.2 r hr
  have c0 : fn_FL_reachRecoverer K I 0 (4 + 3 * N + t) = if nI kd = (5 : Int32) then (if J 9 (r + 1) = 1 then fw_bv (fn_FL_hearFenced K I 0 (29 + 3 * N + r) (4 + 3 * N + t)) fun I31 => some I31 else fn_FL_reachRecoverer_49 K I 0 (4 + 3 * N + t) (nI (29 + 3 * N + r))) else fn_FL_reachRecoverer_49 K I 0 (4 + 3 * N + t) (nI (29 + 3 * N + r)) := by
    unfold fn_FL_reachRecoverer
    rw [x_rec hK z2 hR.2.1, h1, sub_1, gd_eq (xg_r hK hr), ncl (by omega), x_r hK z2 hR.2.2.2.2 hr, p5, if_pos hT, h0, p3, p1]
  have c49 : fn_FL_reachRecoverer_49 K I 0 (4 + 3 * N + t) (nI (29 + 3 * N + r)) = if nI kd = (6 : Int32) then (if J 9 (r + 1) = 2 ∧ J 11 (r + 1) = nI e then (fw_bv (fn_RC_beginWritingBack K I (29 + 3 * N + r) v) fun I25 => fw_bd (fn_FL_sendStep K I25 0 (29 + 3 * N + r)) fun _ I27 => some I27) else fn_FL_reachRecoverer_87 K I 0 (4 + 3 * N + t) (nI (29 + 3 * N + r))) else fn_FL_reachRecoverer_87 K I 0 (4 + 3 * N + t) (nI (29 + 3 * N + r)) := by
    unfold fn_FL_reachRecoverer_49
    rw [ncl (by omega), h0, h3, bd_eq aw_eq, p3, p6, h4]
    by_cases q : J 9 (r + 1) = 2 ∧ J 11 (r + 1) = nI e
    · rw [if_pos q, if_pos q, if_neg (show ¬ (1 : Int32) = 0 by decide)]
    · rw [if_neg q, if_neg q, if_pos (show (0 : Int32) = 0 from rfl)]
  have c87 : fn_FL_reachRecoverer_87 K I 0 (4 + 3 * N + t) (nI (29 + 3 * N + r)) = if nI kd = (7 : Int32) then (if J 9 (r + 1) = 2 ∧ J 11 (r + 1) = nI e then (fw_bv (fn_FL_hearMissing K I 0 (29 + 3 * N + r) (4 + 3 * N + t)) fun I19 => some I19) else fn_FL_reachRecoverer_117 K I 0 (4 + 3 * N + t) (nI (29 + 3 * N + r))) else fn_FL_reachRecoverer_117 K I 0 (4 + 3 * N + t) (nI (29 + 3 * N + r)) := by
    unfold fn_FL_reachRecoverer_87
    rw [ncl (by omega), h0, h3, bd_eq aw_eq, p3, p6]
    by_cases q : J 9 (r + 1) = 2 ∧ J 11 (r + 1) = nI e
    · rw [if_pos q, if_pos q, if_neg (show ¬ (1 : Int32) = 0 by decide)]
    · rw [if_neg q, if_neg q, if_pos (show (0 : Int32) = 0 from rfl)]
  have c117 : fn_FL_reachRecoverer_117 K I 0 (4 + 3 * N + t) (nI (29 + 3 * N + r)) = if nI kd = (3 : Int32) then (if J 9 (r + 1) = 3 ∧ J 11 (r + 1) = nI e then (fw_bv (fn_FL_hearAdded K I 0 (29 + 3 * N + r) (4 + 3 * N + t)) fun I13 => some I13) else some I) else some I := by
    unfold fn_FL_reachRecoverer_117
    rw [ncl (by omega), h0, h3, bd_eq aw_eq, p3, p6]
    by_cases q : J 9 (r + 1) = 3 ∧ J 11 (r + 1) = nI e
    · rw [if_pos q, if_pos q, if_neg (show ¬ (1 : Int32) = 0 by decide)]
    · rw [if_neg q, if_neg q, if_pos (show (0 : Int32) = 0 from rfl)]
  have stay : fn_FL_reachRecoverer K I 0 (4 + 3 * N + t) = some I → fn_MD_learns (fw_k LMl) J 0 (nI kd) (nI (r + 1)) (nI s) (nI e) v = some J → ∃ I' J' cnt', fn_FL_reachRecoverer K I 0 (4 + 3 * N + t) = some I' ∧ fn_MD_learns (fw_k LMl) J 0 (nI kd) (nI (r + 1)) (nI s) (nI e) v = some J' ∧ R0 N W Q I' J' ∧ pC N I' J' cnt' t h ∧ I' (4 + 3 * N + t) = I (4 + 3 * N + t) := fun a b => ⟨I, J, cnt, a, b, hR, hC, rfl⟩
  have x6 : (5 : Int32) * nI (r + 1) + nI s = nI (5 * (r + 1) + s) := by rw [n5, nI_add]
  have m0 : ¬ nI kd = (5 : Int32) → fn_MD_learns (fw_k LMl) J 0 (nI kd) (nI (r + 1)) (nI s) (nI e) v = fn_MD_learns_82 (fw_k LMl) J 0 (nI kd) (nI (r + 1)) (nI e) v (nI (5 * (r + 1) + s)) := by
    intro q
    unfold fn_MD_learns
    rw [if_neg q, x6]
  have m82 : ¬ nI kd = (6 : Int32) → fn_MD_learns_82 (fw_k LMl) J 0 (nI kd) (nI (r + 1)) (nI e) v (nI (5 * (r + 1) + s)) = fn_MD_learns_139 (fw_k LMl) J 0 (nI kd) (nI (r + 1)) (nI e) (nI (5 * (r + 1) + s)) := by
    intro q
    unfold fn_MD_learns_82
    rw [if_neg q]
  have m139 : ¬ nI kd = (7 : Int32) → fn_MD_learns_139 (fw_k LMl) J 0 (nI kd) (nI (r + 1)) (nI e) (nI (5 * (r + 1) + s)) = fn_MD_learns_209 (fw_k LMl) J 0 (nI kd) (nI (r + 1)) (nI e) (nI (5 * (r + 1) + s)) := by
    intro q
    unfold fn_MD_learns_139
    rw [if_neg q]
  have m209 : ¬ nI kd = (3 : Int32) → fn_MD_learns_209 (fw_k LMl) J 0 (nI kd) (nI (r + 1)) (nI e) (nI (5 * (r + 1) + s)) = some J := by
    intro q
    unfold fn_MD_learns_209
    rw [if_neg q]
  match kd, hkd with
  | 3, _ =>
    rw [if_neg (by decide), c49, if_neg (by decide), c87, if_neg (by decide), c117, if_pos (show nI 3 = (3 : Int32) from rfl)] at c0
    have mm := ((m0 (by decide)).trans (m82 (by decide))).trans (m139 (by decide))
    by_cases q : J 9 (r + 1) = 3 ∧ J 11 (r + 1) = nI e
    · rw [if_pos q] at c0
      obtain ⟨I', J', cnt', d1, d2, d3, d4, d5⟩ := added_ok hz hK hr hR hC hs h2 he q.1 q.2.symm
      exact ⟨I', J', cnt', c0.trans (bv_eq d1), mm.trans d2, d3, d4, d5⟩
    · rw [if_neg q] at c0
      refine stay c0 (mm.trans ?_)
      unfold fn_MD_learns_209
      rw [if_pos (show nI 3 = (3 : Int32) from rfl), m_mode hR.1, gd_eq (g_mode (by omega)), ncl (by omega)]
      by_cases q1 : J 9 (r + 1) = 3
      · rw [if_pos q1, m_at hR.1, gd_eq (g_at (by omega)), if_neg (fun q2 => q ⟨q1, q2.symm⟩)]
      · rw [if_neg q1]
  | 4, _ =>
    rw [if_neg (by decide), c49, if_neg (by decide), c87, if_neg (by decide), c117, if_neg (by decide)] at c0
    exact stay c0 ((((m0 (by decide)).trans (m82 (by decide))).trans (m139 (by decide))).trans (m209 (by decide)))
  | 5, _ =>
    rw [if_pos (show nI 5 = (5 : Int32) from rfl)] at c0
    by_cases q : J 9 (r + 1) = 1
    · rw [if_pos q] at c0
      obtain ⟨I', J', cnt', d1, d2, d3, d4, d5⟩ := fenced_ok hz hK hr hR hC hs h2 h4 (hv rfl) q (x4 := nI e)
      exact ⟨I', J', cnt', c0.trans (bv_eq d1), d2, d3, d4, d5⟩
    · rw [if_neg q, c49, if_neg (by decide), c87, if_neg (by decide), c117, if_neg (by decide)] at c0
      refine stay c0 ?_
      unfold fn_MD_learns
      rw [if_pos (show nI 5 = (5 : Int32) from rfl), m_mode hR.1, gd_eq (g_mode (by omega)), ncl (by omega), if_neg q, x6]
      exact ((m82 (by decide)).trans (m139 (by decide))).trans (m209 (by decide))
  | 6, _ =>
    rw [if_neg (by decide), c49, if_pos (show nI 6 = (6 : Int32) from rfl)] at c0
    by_cases q : J 9 (r + 1) = 2 ∧ J 11 (r + 1) = nI e
    · rw [if_pos q] at c0
      obtain ⟨I', J', cnt', d1, d2, d3, d4, d5⟩ := got_ok hz hK hr hR hC (v := v) q.1 q.2.symm (x6 := nI (5 * (r + 1) + s))
      exact ⟨I', J', cnt', c0.trans d1, (m0 (by decide)).trans d2, d3, d4, d5⟩
    · rw [if_neg q, c87, if_neg (by decide), c117, if_neg (by decide)] at c0
      refine stay c0 ((m0 (by decide)).trans ?_)
      unfold fn_MD_learns_82
      rw [if_pos (show nI 6 = (6 : Int32) from rfl), m_mode hR.1, gd_eq (g_mode (by omega)), ncl (by omega)]
      by_cases q1 : J 9 (r + 1) = 2
      · rw [if_pos q1, m_at hR.1, gd_eq (g_at (by omega)), if_neg (fun q2 => q ⟨q1, q2.symm⟩)]
        exact (m139 (by decide)).trans (m209 (by decide))
      · rw [if_neg q1]
        exact (m139 (by decide)).trans (m209 (by decide))
  | 7, _ =>
    rw [if_neg (by decide), c49, if_neg (by decide), c87, if_pos (show nI 7 = (7 : Int32) from rfl)] at c0
    have mm := (m0 (by decide)).trans (m82 (by decide))
    by_cases q : J 9 (r + 1) = 2 ∧ J 11 (r + 1) = nI e
    · rw [if_pos q] at c0
      obtain ⟨I', J', cnt', d1, d2, d3, d4, d5⟩ := missing_ok hz hr hR hC hs h2 he q.1 q.2.symm (K := K)
      exact ⟨I', J', cnt', c0.trans (bv_eq d1), mm.trans d2, d3, d4, d5⟩
    · rw [if_neg q, c117, if_neg (by decide)] at c0
      refine stay c0 (mm.trans ?_)
      unfold fn_MD_learns_139
      rw [if_pos (show nI 7 = (7 : Int32) from rfl), m_mode hR.1, gd_eq (g_mode (by omega)), ncl (by omega)]
      by_cases q1 : J 9 (r + 1) = 2
      · rw [if_pos q1, m_at hR.1, gd_eq (g_at (by omega)), if_neg (fun q2 => q ⟨q1, q2.symm⟩)]
        exact m209 (by decide)
      · rw [if_neg q1]
        exact m209 (by decide)
