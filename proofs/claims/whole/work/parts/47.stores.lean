/-! the stores -/
def pS1 (s : Nat) (I J : Nat → Nat → Int32) : Prop := I 1 s = nI (2 + 3 * s) ∧ I (2 + 3 * s) 0 = nI (3 + 3 * s) ∧ I (2 + 3 * s) 1 = nI (4 + 3 * s) ∧ ((I (2 + 3 * s) 2 = 1 ∧ J 1 s = 0) ∨ (I (2 + 3 * s) 2 = 0 ∧ J 1 s = 1)) ∧ I (2 + 3 * s) 3 = J 2 s ∧ (J 2 s = 0 ∨ J 2 s = 1) ∧ I (2 + 3 * s) 4 = J 3 s ∧ mk (J 3 s) ∧ I (2 + 3 * s) 5 = nI (cntK (I (3 + 3 * s)) 20) ∧ ∀ e, e < 20 → I (3 + 3 * s) e = J 4 (20 * s + e) ∧ (J 4 (20 * s + e) = 0 ∨ J 4 (20 * s + e) = 1) ∧ I (4 + 3 * s) e = J 5 (20 * s + e)
theorem R0.sto {N W Q s : Nat} {I I' J J' : Nat → Nat → Int32} (h : R0 N W Q I J) (hs : s < N) (hI : ∀ k, k ≠ 2 + 3 * s → k ≠ 3 + 3 * s → k ≠ 4 + 3 * s → I' k = I k) (hJ : ∀ k, k = 0 ∨ 6 ≤ k → J' k = J k) (hJ1 : ∀ k s', 1 ≤ k → k ≤ 3 → s' ≠ s → J' k s' = J k s') (hJ2 : ∀ k p, 4 ≤ k → k ≤ 5 → p < 20 * s ∨ 20 * s + 20 ≤ p → J' k p = J k p) (hb : pS1 s I' J') : R0 N W Q I' J' ∧ frC N I I' J J' := by
  obtain ⟨h1, h2, h3, h4, h5⟩ := h
  refine ⟨⟨h1.keep (fun j _ => by rw [hJ 0 (by omega)]), h2.keep (hI 0 (by omega) (by omega) (by omega)) (fun j _ => by rw [hJ 0 (by omega)]), fun s' hs' => ?_, h4.keep (fun k _ _ => hI k (by omega) (by omega) (by omega)) (hJ 7 (by omega)) (hJ 8 (by omega)) (fun j _ _ => by rw [hJ 0 (by omega)]), h5.keep (fun k _ => hI k (by omega) (by omega) (by omega)) (fun k _ _ => hJ k (by omega))⟩, fun k _ _ => hI k (by omega) (by omega) (by omega), hJ 6 (by omega), by rw [hJ 0 (by omega)]⟩
  by_cases hss : s' = s
  · subst hss
    exact hb
  · obtain ⟨q1, q2, q3, q4, q5, q6, q7, q8, q9, q10⟩ := h3 s' hs'
    rw [hI 1 (by omega) (by omega) (by omega), hI (2 + 3 * s') (by omega) (by omega) (by omega), hI (3 + 3 * s') (by omega) (by omega) (by omega), hI (4 + 3 * s') (by omega) (by omega) (by omega), hJ1 1 s' (by omega) (by omega) hss, hJ1 2 s' (by omega) (by omega) hss, hJ1 3 s' (by omega) (by omega) hss]
    exact ⟨q1, q2, q3, q4, q5, q6, q7, q8, q9, fun e he => by rw [hJ2 4 _ (by omega) (by omega) (by omega), hJ2 5 _ (by omega) (by omega) (by omega)]; exact q10 e he⟩
theorem cntK_same {f f' : Nat → Int32} : ∀ n, (∀ j, j < n → f' j = f j) → cntK f' n = cntK f n := by
  intro n
  induction n with
  | zero => intro _; rfl
  | succ n ih =>
    intro h
    rw [cntK, cntK, ih (fun j hj => h j (by omega)), h n (by omega)]
theorem cntK_up {f f' : Nat → Int32} {e : Nat} (h0 : f e = 0) (h1 : ¬ f' e = 0) (hj : ∀ j, j ≠ e → f' j = f j) : ∀ n, e < n → cntK f' n = cntK f n + 1 := by
  intro n
  induction n with
  | zero => intro h; exact absurd h (by omega)
  | succ n ih =>
    intro h
    by_cases hn : e = n
    · subst hn
      rw [cntK, cntK, cntK_same e (fun j h => hj j (by omega)), if_neg h1, if_pos h0]
    · rw [cntK, cntK, ih (by omega), hj n (by omega)]
      omega
theorem R0.power {N W Q s : Nat} {I J : Nat → Nat → Int32} (h : R0 N W Q I J) (hs : s < N) {x y : Int32} (hxy : (x = 1 ∧ y = 0) ∨ (x = 0 ∧ y = 1)) : R0 N W Q (fw_up2 I (2 + 3 * s) 2 x) (fw_up2 J 1 s y) ∧ frC N I (fw_up2 I (2 + 3 * s) 2 x) J (fw_up2 J 1 s y) := by
  obtain ⟨q1, q2, q3, q4, q5, q6, q7, q8, q9, q10⟩ := h.2.2.1 s hs
  refine h.sto hs (fun k h1 _ _ => up_row h1) (fun k hk => up_row (by omega)) (fun k s' _ _ hs' => by rw [up_ap, if_neg (fun q => hs' q.2)]) (fun k p _ _ _ => by rw [up_ap, if_neg (by omega)]) ⟨?_, ?_, ?_, ?_, ?_, ?_, ?_, ?_, ?_, fun e he => ?_⟩
  · rw [up_row (by omega)]; exact q1
  · rw [up_ap, if_neg (by omega)]; exact q2
  · rw [up_ap, if_neg (by omega)]; exact q3
  · rw [up_ap, if_pos ⟨rfl, rfl⟩, up_ap, if_pos ⟨rfl, rfl⟩]; exact hxy
  · rw [up_ap, if_neg (by omega), up_ap, if_neg (by omega)]; exact q5
  · rw [up_ap, if_neg (by omega)]; exact q6
  · rw [up_ap, if_neg (by omega), up_ap, if_neg (by omega)]; exact q7
  · rw [up_ap, if_neg (by omega)]; exact q8
  · rw [up_ap, if_neg (by omega), up_row (by omega)]; exact q9
  · rw [up_row (by omega), up_row (k' := 4) (by omega), up_row (by omega), up_row (k' := 5) (by omega)]
    exact q10 e he
theorem R0.fenced {N W Q s : Nat} {I J : Nat → Nat → Int32} (h : R0 N W Q I J) (hs : s < N) : R0 N W Q (fw_up2 I (2 + 3 * s) 3 1) (fw_up2 J 2 s 1) ∧ frC N I (fw_up2 I (2 + 3 * s) 3 1) J (fw_up2 J 2 s 1) := by
  obtain ⟨q1, q2, q3, q4, q5, q6, q7, q8, q9, q10⟩ := h.2.2.1 s hs
  refine h.sto hs (fun k h1 _ _ => up_row h1) (fun k hk => up_row (by omega)) (fun k s' _ _ hs' => by rw [up_ap, if_neg (fun q => hs' q.2)]) (fun k p _ _ _ => by rw [up_ap, if_neg (by omega)]) ⟨?_, ?_, ?_, ?_, ?_, ?_, ?_, ?_, ?_, fun e he => ?_⟩
  · rw [up_row (by omega)]; exact q1
  · rw [up_ap, if_neg (by omega)]; exact q2
  · rw [up_ap, if_neg (by omega)]; exact q3
  · rw [up_ap, if_neg (by omega), up_ap, if_neg (by omega)]; exact q4
  · rw [up_ap, if_pos ⟨rfl, rfl⟩, up_ap, if_pos ⟨rfl, rfl⟩]
  · rw [up_ap, if_pos ⟨rfl, rfl⟩]; exact Or.inr rfl
  · rw [up_ap, if_neg (by omega), up_ap, if_neg (by omega)]; exact q7
  · rw [up_ap, if_neg (by omega)]; exact q8
  · rw [up_ap, if_neg (by omega), up_row (by omega)]; exact q9
  · rw [up_row (by omega), up_row (k' := 4) (by omega), up_row (by omega), up_row (k' := 5) (by omega)]
    exact q10 e he
theorem keep_ok {N W Q : Nat} (hz : sz N W Q) {K : Nat → Nat × Nat} (hK : kX N K) {I J : Nat → Nat → Int32} (hR : R0 N W Q I J) {s e : Nat} (hs : s < N) (he : e < 20) {v m : Int32} (hm : mk m) :
    ∃ I' J', fn_ST_keep K I (2 + 3 * s) (nI e) v m = some I' ∧ (∀ x1 x5, fn_MD_keep_25 (fw_k LMl) J 0 x1 (nI s) (nI e) v x5 m = fw_bv (fn_MD_send (fw_k LMl) J' 0 3 x1 (nI s) (nI e) 0 x5 0) fun I16 => some I16) ∧ R0 N W Q I' J' ∧ frC N I I' J J' := by
  have z2 := hz.2.1
  obtain ⟨q1, q2, q3, q4, q5, q6, q7, q8, q9, q10⟩ := hR.2.2.1 s hs
  obtain ⟨a1, a2, a3⟩ := q10 e he
  let mm : Int32 := if m ≤ J 3 s then J 3 s else m
  have hmm : (if J 3 s < m then m else J 3 s) = mm := by
    show _ = if m ≤ J 3 s then J 3 s else m
    by_cases h : J 3 s < m
    · rw [if_pos h, if_neg (fun q => absurd h (Int32.not_lt.mpr q))]
    · rw [if_neg h, if_pos (Int32.not_lt.mp h)]
  have hmk : mk mm := by
    show mk (if m ≤ J 3 s then J 3 s else m)
    by_cases h : m ≤ J 3 s
    · rw [if_pos h]; exact q8
    · rw [if_neg h]; exact hm
  have hJ : ∀ x1 x5, fn_MD_keep_25 (fw_k LMl) J 0 x1 (nI s) (nI e) v x5 m = fw_bv (fn_MD_send (fw_k LMl) (fw_up2 (fw_up2 (fw_up2 J 4 (20 * s + e) 1) 5 (20 * s + e) v) 3 s mm) 0 3 x1 (nI s) (nI e) 0 x5 0) fun I16 => some I16 := by
    intro x1 x5
    have g4 : fw_up2 (fw_up2 J 4 (20 * s + e) 1) 5 (20 * s + e) v 3 s = J 3 s := by rw [up_row (by omega), up_row (by omega)]
    have hM1 : pM (fw_up2 J 4 (20 * s + e) 1) := hR.1.keep (fun j _ => by rw [up_row (by omega)])
    have hM2 : pM (fw_up2 (fw_up2 J 4 (20 * s + e) 1) 5 (20 * s + e) v) := hM1.keep (fun j _ => by rw [up_row (by omega)])
    unfold fn_MD_keep_25
    rw [m_held hR.1, n20, nI_add, gd_eq (g_held (by omega)), ncl (by omega), let_eq, m_hv hM1, gd_eq (g_hv (by omega)), let_eq, m_mark hM2, m_mark hM2, gd_eq (g_mark (by omega)), ncl (by omega), g4]
    by_cases h : m ≤ J 3 s
    · rw [if_pos h, m_mark hM2, gd_eq (g_mark (by omega)), gd_eq (g_mark (by omega)), g4, let_eq, show mm = J 3 s from if_pos h]
    · rw [if_neg h, gd_eq (g_mark (by omega)), let_eq, show mm = m from if_neg h]
  have fin : ∀ I1 : Nat → Nat → Int32, (∀ k, k ≠ 2 + 3 * s → k ≠ 3 + 3 * s → I1 k = I k) → (∀ j, j < 5 → I1 (2 + 3 * s) j = I (2 + 3 * s) j) → I1 (2 + 3 * s) 5 = nI (cntK (I1 (3 + 3 * s)) 20) → (∀ j, j < 20 → I1 (3 + 3 * s) j = if j = e then 1 else I (3 + 3 * s) j) → ∃ I', fn_ST_keep_26 K I1 (2 + 3 * s) (nI e) v m = some I' ∧ R0 N W Q I' (fw_up2 (fw_up2 (fw_up2 J 4 (20 * s + e) 1) 5 (20 * s + e) v) 3 s mm) ∧ frC N I I' J (fw_up2 (fw_up2 (fw_up2 J 4 (20 * s + e) 1) 5 (20 * s + e) v) 3 s mm) := by
    intro I1 i1 i2 i3 i4
    refine ⟨fw_up2 (fw_up2 I1 (4 + 3 * s) e v) (2 + 3 * s) 4 mm, ?_, ?_⟩
    · unfold fn_ST_keep_26
      rw [ld_eq ((i2 1 (by omega)).trans q3) (by omega) (by rw [(hK.2.2.1 s hs).2.2]), gd_eq (xg_sv hK hs he), ncl (by omega), let_eq, up_row (show 2 + 3 * s ≠ 4 + 3 * s by omega), i2 4 (by omega), q7, hmm, let_eq]
    · refine hR.sto hs (fun k h1 h2 h3 => by rw [up_row h1, up_row h3]; exact i1 k h1 h2) (fun k hk => by rw [up_row (by omega), up_row (by omega), up_row (by omega)]) (fun k s' _ _ hs' => by rw [up_ap, if_neg (fun q => hs' q.2), up_row (by omega), up_row (by omega)]) (fun k p _ _ _ => by rw [up_ap, if_neg (by omega), up_ap, if_neg (by omega), up_ap, if_neg (by omega)]) ⟨?_, ?_, ?_, ?_, ?_, ?_, ?_, ?_, ?_, fun e' he' => ?_⟩
      · rw [up_row (by omega), up_row (by omega), i1 1 (by omega) (by omega)]; exact q1
      · rw [up_ap, if_neg (by omega), up_row (by omega), i2 0 (by omega)]; exact q2
      · rw [up_ap, if_neg (by omega), up_row (by omega), i2 1 (by omega)]; exact q3
      · rw [up_ap, if_neg (by omega), up_row (by omega), i2 2 (by omega), up_row (by omega), up_row (by omega), up_row (by omega)]; exact q4
      · rw [up_ap, if_neg (by omega), up_row (by omega), i2 3 (by omega), up_row (by omega), up_row (by omega), up_row (by omega)]; exact q5
      · rw [up_row (by omega), up_row (by omega), up_row (by omega)]; exact q6
      · rw [up_ap, if_pos ⟨rfl, rfl⟩, up_ap, if_pos ⟨rfl, rfl⟩]
      · rw [up_ap, if_pos ⟨rfl, rfl⟩]; exact hmk
      · rw [up_ap, if_neg (by omega), up_row (by omega), up_row (by omega), up_row (by omega)]; exact i3
      · rw [up_row (k' := 3 + 3 * s) (by omega), up_row (k' := 3 + 3 * s) (by omega), i4 e' he', up_row (k' := 4) (by omega), up_row (k' := 4) (by omega), up_row (k' := 4 + 3 * s) (by omega), up_row (k' := 5) (by omega), up_ap, up_ap, up_ap, i1 (4 + 3 * s) (by omega) (by omega), up_row (k' := 5) (by omega)]
        obtain ⟨b1, b2, b3⟩ := q10 e' he'
        by_cases hee : e' = e
        · subst hee
          rw [if_pos rfl, if_pos ⟨rfl, rfl⟩, if_pos ⟨rfl, rfl⟩, if_pos ⟨rfl, rfl⟩]
          exact ⟨rfl, Or.inr rfl, rfl⟩
        · rw [if_neg hee, if_neg (by omega), if_neg (by omega), if_neg (by omega)]
          exact ⟨b1, b2, b3⟩
  by_cases hk : J 4 (20 * s + e) = 0
  · obtain ⟨I', c1, c2⟩ := fin (fw_up2 (fw_up2 I (3 + 3 * s) e 1) (2 + 3 * s) 5 (nI (cntK (I (3 + 3 * s)) 20 + 1))) (fun k h1 h2 => by rw [up_row h1, up_row h2]) (fun j hj => by rw [up_ap, if_neg (by omega), up_row (by omega)]) (by
        rw [up_ap, if_pos ⟨rfl, rfl⟩, up_row (by omega)]
        refine congrArg nI (Eq.symm (cntK_up (e := e) (a1.trans hk) ?_ (fun j hj => ?_) 20 he))
        · rw [up_ap, if_pos ⟨rfl, rfl⟩]; decide
        · rw [up_ap, if_neg (fun q => hj q.2)]) (fun j hj => by
        rw [up_row (by omega), up_ap]
        by_cases h : j = e
        · rw [if_pos ⟨rfl, h⟩, if_pos h]
        · rw [if_neg (fun q => h q.2), if_neg h])
    refine ⟨I', _, ?_, hJ, c2⟩
    unfold fn_ST_keep
    rw [x_sk hK z2 hR.2.2.1 hs, gd_eq (xg_sk hK hs he), ncl (by omega), a1, if_pos hk, x_sk hK z2 hR.2.2.1 hs, gd_eq (xg_sk hK hs he), let_eq, up_row (show 2 + 3 * s ≠ 3 + 3 * s by omega), q9, na1, let_eq]
    exact c1
  · obtain ⟨I', c1, c2⟩ := fin I (fun _ _ _ => rfl) (fun _ _ => rfl) q9 (fun j hj => by
        by_cases h : j = e
        · rw [if_pos h, h, a1]
          exact a2.resolve_left hk
        · rw [if_neg h])
    refine ⟨I', _, ?_, hJ, c2⟩
    unfold fn_ST_keep
    rw [x_sk hK z2 hR.2.2.1 hs, gd_eq (xg_sk hK hs he), ncl (by omega), a1, if_neg hk]
    exact c1
theorem frC.msg {N t : Nat} {I I' J J' : Nat → Nat → Int32} (f : frC N I I' J J') (ht : t < 21) : I' (4 + 3 * N + t) = I (4 + 3 * N + t) := f.1 _ (by omega) (by omega)
theorem send_k {N W Q : Nat} (hz : sz N W Q) {K : Nat → Nat × Nat} (hK : kX N K) {I J : Nat → Nat → Int32} (hR : R0 N W Q I J) {cnt t : Nat} {h : Nat → Nat} (hC : pC N I J cnt t h) {r s e : Nat} {x T : Int32} {x2 : Int32} (h1 : I (4 + 3 * N + t) 1 = nI r) (h2 : I (4 + 3 * N + t) 2 = nI s) (h3 : I (4 + 3 * N + t) 3 = nI e) (h5 : I (4 + 3 * N + t) 5 = T) (hm : okm N (mf x2 (nI r) (nI s) (nI e) x T 0)) :
    ∃ I' J' cnt', fn_FL_sendAnswer K I 0 (4 + 3 * N + t) x2 x = some I' ∧ fn_MD_send (fw_k LMl) J 0 x2 (nI r) (nI s) (nI e) x T 0 = some J' ∧ R0 N W Q I' J' ∧ pC N I' J' cnt' t h ∧ I' (4 + 3 * N + t) = I (4 + 3 * N + t) := by
  obtain ⟨I', J', cnt', a1, a2, a3, a4⟩ := send_ok hK hz.2.1 hR.1 hC hm
  refine ⟨I', J', cnt', ?_, a2, hR.send a4, a3, a4.2.1⟩
  unfold fn_FL_sendAnswer
  rw [x_ch hK hz.2.1 hR.2.1, h1, h2, h3, h5]
  exact bv_eq a1
theorem st_down {N W Q : Nat} (hz : sz N W Q) {K : Nat → Nat × Nat} (hK : kX N K) {I J : Nat → Nat → Int32} (hR : R0 N W Q I J) {k1 s : Nat} (h2 : I k1 2 = nI s) (hs : s < N) (hd : ¬ J 1 s = 0) : fn_FL_reachStore K I 0 k1 = some I := by
  have z2 := hz.2.1
  have hd' : I (2 + 3 * s) 2 = 0 := by
    rcases (hR.2.2.1 s hs).2.2.2.1 with q | q
    · exact absurd q.2 hd
    · exact q.1
  unfold fn_FL_reachStore
  rw [x_sto hK hR.2.1, h2, gd_eq (xg_sto hK z2 hs), ncl (by omega), x_s hK z2 hR.2.2.1 hs, if_pos hd']
theorem st_up {N W Q : Nat} {I J : Nat → Nat → Int32} (hR : R0 N W Q I J) {s : Nat} (hs : s < N) (hd : J 1 s = 0) : ¬ I (2 + 3 * s) 2 = 0 := by
  rcases (hR.2.2.1 s hs).2.2.2.1 with q | q
  · rw [q.1]; decide
  · exact absurd (q.2.symm.trans hd) (by decide)
theorem st_add {N W Q : Nat} (hz : sz N W Q) {K : Nat → Nat × Nat} (hK : kX N K) {I J : Nat → Nat → Int32} (hR : R0 N W Q I J) {cnt t : Nat} {h : Nat → Nat} (hC : pC N I J cnt t h) {r s e : Nat} {v T m : Int32} (h0 : I (4 + 3 * N + t) 0 = 0) (h1 : I (4 + 3 * N + t) 1 = nI r) (h2 : I (4 + 3 * N + t) 2 = nI s) (h3 : I (4 + 3 * N + t) 3 = nI e) (h4 : I (4 + 3 * N + t) 4 = v) (h5 : I (4 + 3 * N + t) 5 = T) (h6 : I (4 + 3 * N + t) 6 = m) (hr : r < 3) (hs : s < N) (he : e < 20) (hm : mk m) (hT : r = 0 → T = 0) (hd : J 1 s = 0) :
    ∃ I' J' cnt', fn_FL_reachStore K I 0 (4 + 3 * N + t) = some I' ∧ fn_MD_keep (fw_k LMl) J 0 (nI r) (nI s) (nI e) v T m = some J' ∧ R0 N W Q I' J' ∧ pC N I' J' cnt' t h ∧ I' (4 + 3 * N + t) = I (4 + 3 * N + t) := by
  have z2 := hz.2.1
  have ht := hC.2.1
  have hup := st_up hR hs hd
  have m0 : mk (0 : Int32) := ⟨1, by omega, rfl⟩
  have go : ∃ I' J' cnt', fn_FL_reachStoreWithAdd_22 K I 0 (2 + 3 * s) (4 + 3 * N + t) = some I' ∧ fn_MD_keep_25 (fw_k LMl) J 0 (nI r) (nI s) (nI e) v T m = some J' ∧ R0 N W Q I' J' ∧ pC N I' J' cnt' t h ∧ I' (4 + 3 * N + t) = I (4 + 3 * N + t) := by
    obtain ⟨I1, J1, a1, a2, a3, a4⟩ := keep_ok hz hK hR hs he (v := v) hm
    have hmsg := a4.msg ht
    obtain ⟨I', J', cnt', b1, b2, b3, b4, b5⟩ := send_k hz hK a3 (hC.fr a4) (r := r) (s := s) (e := e) (x := 0) (T := T) (x2 := 3) (by rw [hmsg]; exact h1) (by rw [hmsg]; exact h2) (by rw [hmsg]; exact h3) (by rw [hmsg]; exact h5) ⟨3, r, s, e, by omega, hr, hs, he, rfl, rfl, rfl, rfl, m0, by omega, by omega, fun q => ⟨by omega, hT q⟩⟩
    refine ⟨I', J', cnt', ?_, ?_, b3, b4, b5.trans hmsg⟩
    · unfold fn_FL_reachStoreWithAdd_22
      rw [h3, h4, h6, bv_eq a1]
      exact bv_eq b1
    · rw [a2]
      exact bv_eq b2
  have q5 := (hR.2.2.1 s hs).2.2.2.2.1
  have e0 : fn_FL_reachStore K I 0 (4 + 3 * N + t) = fw_bv (fn_FL_reachStoreWithAdd K I 0 (2 + 3 * s) (4 + 3 * N + t)) fun I19 => some I19 := by
    unfold fn_FL_reachStore
    rw [x_sto hK hR.2.1, h2, gd_eq (xg_sto hK z2 hs), ncl (by omega), x_s hK z2 hR.2.2.1 hs, if_neg hup, if_pos h0]
  by_cases hr0 : r = 0
  · subst hr0
    by_cases hf : J 2 s = 0
    · obtain ⟨I', J', cnt', b1, b2, b3, b4, b5⟩ := go
      refine ⟨I', J', cnt', ?_, ?_, b3, b4, b5⟩
      · rw [e0]
        unfold fn_FL_reachStoreWithAdd
        rw [h1, if_pos (show nI 0 = (0 : Int32) from rfl), q5, if_pos hf]
        exact bv_eq b1
      · unfold fn_MD_keep
        rw [if_pos (show nI 0 = (0 : Int32) from rfl), m_fen hR.1, gd_eq (g_fen (by omega)), ncl (by omega), if_pos hf]
        exact b2
    · obtain ⟨I', J', cnt', b1, b2, b3, b4, b5⟩ := send_k hz hK hR hC (r := 0) (s := s) (e := e) (x := 0) (T := T) (x2 := 4) h1 h2 h3 h5 ⟨4, 0, s, e, by omega, hr, hs, he, rfl, rfl, rfl, rfl, m0, by omega, by omega, fun q => ⟨by omega, hT q⟩⟩
      refine ⟨I', J', cnt', ?_, ?_, b3, b4, b5⟩
      · rw [e0]
        unfold fn_FL_reachStoreWithAdd
        rw [h1, if_pos (show nI 0 = (0 : Int32) from rfl), q5, if_neg hf]
        exact bv_eq (bv_eq b1)
      · unfold fn_MD_keep
        rw [if_pos (show nI 0 = (0 : Int32) from rfl), m_fen hR.1, gd_eq (g_fen (by omega)), ncl (by omega), if_neg hf]
        rw [hT rfl] at b2
        exact bv_eq b2
  · have hr1 : ¬ nI r = (0 : Int32) := fun q => hr0 ((neq (a := r) (b := 0) (by omega) (by omega)).mp q)
    obtain ⟨I', J', cnt', b1, b2, b3, b4, b5⟩ := go
    refine ⟨I', J', cnt', ?_, ?_, b3, b4, b5⟩
    · rw [e0]
      unfold fn_FL_reachStoreWithAdd
      rw [h1, if_neg hr1]
      exact bv_eq b1
    · unfold fn_MD_keep
      rw [if_neg hr1]
      exact b2
theorem st_fence {N W Q : Nat} (hz : sz N W Q) {K : Nat → Nat × Nat} (hK : kX N K) {I J : Nat → Nat → Int32} (hR : R0 N W Q I J) {cnt t : Nat} {h : Nat → Nat} (hC : pC N I J cnt t h) {kd r s e : Nat} {T : Int32} (hkd : kd = 1 ∨ kd = 2) (h0 : I (4 + 3 * N + t) 0 = nI kd) (h1 : I (4 + 3 * N + t) 1 = nI r) (h2 : I (4 + 3 * N + t) 2 = nI s) (h3 : I (4 + 3 * N + t) 3 = nI e) (h5 : I (4 + 3 * N + t) 5 = T) (hr : r < 3) (hr0 : 0 < r) (hs : s < N) (he : e < 20) (he0 : kd = 1 → e = 0) (hd : J 1 s = 0) :
    ∃ I' J' cnt', fn_FL_reachStore K I 0 (4 + 3 * N + t) = some I' ∧ fn_MD_fence (fw_k LMl) J 0 (nI kd) (nI r) (nI s) (nI e) T = some J' ∧ R0 N W Q I' J' ∧ pC N I' J' cnt' t h ∧ I' (4 + 3 * N + t) = I (4 + 3 * N + t) := by
  have z2 := hz.2.1
  have ht := hC.2.1
  have hup := st_up hR hs hd
  have m0 : mk (0 : Int32) := ⟨1, by omega, rfl⟩
  obtain ⟨f1, f2⟩ := hR.fenced hs
  have hC1 := hC.fr f2
  have hmsg := f2.msg ht
  have hkd0 : ¬ nI kd = (0 : Int32) := fun q => by have := (neq (a := kd) (b := 0) (by omega) (by omega)).mp q; omega
  have e0 : ∀ R, (let I6 := fw_up2 I (2 + 3 * s) 3 1; (if nI kd = (1 : Int32) then fw_bv (fn_FL_sendAnswer K I6 0 (4 + 3 * N + t) (5 : Int32) (I6 (2 + 3 * s) 4)) fun I17 => some I17 else fw_ld K (I6 (2 + 3 * s) 0) 21 fun a8 => fw_gd (fw_ix (nI e) (K a8).2) <| if (I6 a8 (nI e).toNatClampNeg) = 0 then fw_bv (fn_FL_sendAnswer K I6 0 (4 + 3 * N + t) (7 : Int32) (0 : Int32)) fun I11 => some I11 else fw_ld K (I6 (2 + 3 * s) 1) 20 fun a13 => fw_gd (fw_ix (nI e) (K a13).2) <| fw_bv (fn_FL_sendAnswer K I6 0 (4 + 3 * N + t) (6 : Int32) (I6 a13 (nI e).toNatClampNeg)) fun I15 => some I15) = some R) → fn_FL_reachStore K I 0 (4 + 3 * N + t) = some R := by
    intro R hh
    unfold fn_FL_reachStore
    rw [x_sto hK hR.2.1, h2, gd_eq (xg_sto hK z2 hs), ncl (by omega), x_s hK z2 hR.2.2.1 hs, if_neg hup, h0, if_neg hkd0, let_eq, hmsg, h0, h3]
    exact hh
  rcases hkd with rfl | rfl
  · have he1 := he0 rfl
    subst he1
    have q7 : fw_up2 I (2 + 3 * s) 3 1 (2 + 3 * s) 4 = fw_up2 J 2 s 1 3 s := by
      rw [up_ap, if_neg (by omega), up_ap, if_neg (by omega)]
      exact (hR.2.2.1 s hs).2.2.2.2.2.2.1
    obtain ⟨I', J', cnt', b1, b2, b3, b4, b5⟩ := send_k hz hK f1 hC1 (r := r) (s := s) (e := 0) (x := fw_up2 J 2 s 1 3 s) (T := T) (x2 := 5) (by rw [hmsg]; exact h1) (by rw [hmsg]; exact h2) (by rw [hmsg]; exact h3) (by rw [hmsg]; exact h5) ⟨5, r, s, 0, by omega, hr, hs, he, rfl, rfl, rfl, rfl, m0, fun _ => (by show mk (fw_up2 J 2 s 1 3 s); rw [up_ap, if_neg (by omega)]; exact (hR.2.2.1 s hs).2.2.2.2.2.2.2.1), fun _ => rfl, by omega⟩
    refine ⟨I', J', cnt', e0 _ ?_, ?_, b3, b4, b5.trans hmsg⟩
    · show (if nI 1 = (1 : Int32) then _ else _) = _
      rw [if_pos (show nI 1 = (1 : Int32) from rfl), q7]
      exact bv_eq b1
    · unfold fn_MD_fence
      rw [m_fen hR.1, gd_eq (g_fen (by omega)), ncl (by omega), let_eq, if_pos (show nI 1 = (1 : Int32) from rfl), m_mark f1.1, gd_eq (g_mark (by omega))]
      exact bv_eq b2
  · have k4 : fw_up2 I (2 + 3 * s) 3 1 (3 + 3 * s) e = fw_up2 J 2 s 1 4 (20 * s + e) := ((f1.2.2.1 s hs).2.2.2.2.2.2.2.2.2 e he).1
    have k5 : fw_up2 I (2 + 3 * s) 3 1 (4 + 3 * s) e = fw_up2 J 2 s 1 5 (20 * s + e) := ((f1.2.2.1 s hs).2.2.2.2.2.2.2.2.2 e he).2.2
    by_cases hk : fw_up2 J 2 s 1 4 (20 * s + e) = 0
    · obtain ⟨I', J', cnt', b1, b2, b3, b4, b5⟩ := send_k hz hK f1 hC1 (r := r) (s := s) (e := e) (x := 0) (T := T) (x2 := 7) (by rw [hmsg]; exact h1) (by rw [hmsg]; exact h2) (by rw [hmsg]; exact h3) (by rw [hmsg]; exact h5) ⟨7, r, s, e, by omega, hr, hs, he, rfl, rfl, rfl, rfl, m0, by omega, by omega, by omega⟩
      refine ⟨I', J', cnt', e0 _ ?_, ?_, b3, b4, b5.trans hmsg⟩
      · show (if nI 2 = (1 : Int32) then _ else _) = _
        rw [if_neg (show ¬ nI 2 = (1 : Int32) by decide), x_sk hK z2 f1.2.2.1 hs, gd_eq (xg_sk hK hs he), ncl (by omega), k4, if_pos hk]
        exact bv_eq b1
      · unfold fn_MD_fence
        rw [m_fen hR.1, gd_eq (g_fen (by omega)), ncl (by omega), let_eq, if_neg (show ¬ nI 2 = (1 : Int32) by decide), m_held f1.1, n20, nI_add, gd_eq (g_held (by omega)), ncl (by omega), if_pos hk]
        exact bv_eq b2
    · obtain ⟨I', J', cnt', b1, b2, b3, b4, b5⟩ := send_k hz hK f1 hC1 (r := r) (s := s) (e := e) (x := fw_up2 J 2 s 1 5 (20 * s + e)) (T := T) (x2 := 6) (by rw [hmsg]; exact h1) (by rw [hmsg]; exact h2) (by rw [hmsg]; exact h3) (by rw [hmsg]; exact h5) ⟨6, r, s, e, by omega, hr, hs, he, rfl, rfl, rfl, rfl, m0, by omega, by omega, by omega⟩
      refine ⟨I', J', cnt', e0 _ ?_, ?_, b3, b4, b5.trans hmsg⟩
      · show (if nI 2 = (1 : Int32) then _ else _) = _
        rw [if_neg (show ¬ nI 2 = (1 : Int32) by decide), x_sk hK z2 f1.2.2.1 hs, gd_eq (xg_sk hK hs he), ncl (by omega), k4, if_neg hk, x_sv hK z2 f1.2.2.1 hs, gd_eq (xg_sv hK hs he), k5]
        exact bv_eq b1
      · unfold fn_MD_fence
        rw [m_fen hR.1, gd_eq (g_fen (by omega)), ncl (by omega), let_eq, if_neg (show ¬ nI 2 = (1 : Int32) by decide), m_held f1.1, n20, nI_add, gd_eq (g_held (by omega)), ncl (by omega), if_neg hk, m_hv f1.1, gd_eq (g_hv (by omega))]
        exact bv_eq b2
