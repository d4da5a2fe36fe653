/-! a recoverer's step -/
theorem ask2_ok {N W Q : Nat} (hz : sz N W Q) {K : Nat → Nat × Nat} (hK : kX N K) {e t r : Nat} (hr : r < 2) {h : Nat → Nat} (he : e < 20) {b : Nat} (hb : b < 2 ^ N) {T : Int32} : ∀ (d f j n : Nat) (I J : Nat → Nat → Int32) (cnt : Nat), W - j = d → d < f → j ≤ W → R0 N W Q I J → pC N I J cnt t h → (∀ s, s < 5 → J 14 (5 * (r + 1) + s) = pb b s) → J 9 (r + 1) = nI 2 → J 10 (r + 1) = T → J 11 (r + 1) = nI e →
    ∃ n' I' J' cnt', fn_FL_sendToSet_6 K f I 0 2 (nI (r + 1)) (nI e) 0 T 0 (nI b) (nI n) (nI j) = some (nI n', I') ∧ fn_MD_ask_27 (fw_k LMl) f J 0 (nI (r + 1)) (nI n) (nI W) (nI j) = some (nI n', J') ∧ R0 N W Q I' J' ∧ pC N I' J' cnt' t h ∧ frS N t I I' J J' := by
  obtain ⟨z1, z2, z3, z4, z5, z6⟩ := hz
  have hb5 : b < 32 := Nat.lt_of_lt_of_le hb (Nat.pow_le_pow_right (n := 2) (by decide) z2)
  intro d
  induction d with
  | zero =>
    intro f j n I J cnt hd hf hj hR hC hB hmo hte hat
    obtain ⟨g, rfl⟩ : ∃ g, f = g + 1 := ⟨f - 1, by omega⟩
    refine ⟨n, I, J, cnt, ?_, ?_, hR, hC, frS.rf⟩
    · rw [fn_FL_sendToSet_6, hR.2.1.2.1, if_pos (nle (by omega) (by omega))]
    · rw [fn_MD_ask_27, if_pos (nle (by omega) (by omega))]
  | succ d ih =>
    intro f j n I J cnt hd hf hj hR hC hB hmo hte hat
    obtain ⟨g, rfl⟩ : ∃ g, f = g + 1 := ⟨f - 1, by omega⟩
    have hs : (e + j) % N < N := Nat.mod_lt _ (by omega)
    have hnz : decide (¬ nI N = 0) = true := decide_eq_true (by intro h; have := (neq (a := N) (b := 0) (by omega) (by omega)).mp h; omega)
    have hsm : nI (e + j) - nI (e + j) / nI N * nI N = nI ((e + j) % N) := set_m _ (by omega) _ (by omega) (by omega)
    by_cases hbit : b.testBit ((e + j) % N) = false
    · have hm : okm N (mf 2 (nI (r + 1)) (nI ((e + j) % N)) (nI e) 0 T 0) := ⟨2, r + 1, (e + j) % N, e, by omega, by omega, hs, he, rfl, rfl, rfl, rfl, ⟨1, by omega, rfl⟩, by omega, by omega, fun h0 => by omega⟩
      obtain ⟨I1, J1, cnt1, a1, a2, a3, a4⟩ := send_ok hK z2 hR.1 hC hm
      have hR1 := hR.send a4
      obtain ⟨n', I', J', cnt', b1, b2, b3, b4, b5⟩ := ih g (j + 1) (n + 1) I1 J1 cnt1 (by omega) (by omega) (by omega) hR1 a3 (by rw [a4.2.2.1 14 (by omega) (by omega)]; exact hB) (by rw [a4.2.2.1 9 (by omega) (by omega)]; exact hmo) (by rw [a4.2.2.1 10 (by omega) (by omega)]; exact hte) (by rw [a4.2.2.1 11 (by omega) (by omega)]; exact hat)
      refine ⟨n', I', J', cnt', ?_, ?_, b3, b4, a4.tr b5⟩
      · rw [fn_FL_sendToSet_6, hR.2.1.2.1, if_neg (nnle (by omega) (by omega)), bd_eq (memb hR.2.1.1 ⟨z1, z2⟩ he (by omega)), if_pos ((bit_tst b hb5 _ (by omega)).mpr hbit), x_ch hK z2 hR.2.1, bv_eq a1, na1, na1]
        exact b1
      · rw [fn_MD_ask_27, if_neg (nnle (by omega) (by omega)), m_mode hR.1, gd_eq (g_mode (by omega)), ncl (by omega), hmo, if_neg (show ¬ nI 2 = (1 : Int32) by decide), m_at hR.1, gd_eq (g_at (by omega)), hat, hR.2.1.2.2.2.2.2.2.2.1, gd_eq hnz, m_ans hR.1, nI_add, hsm, n5, nI_add, gd_eq (g_ans (by omega)), ncl (a := 5 * (r + 1) + (e + j) % N) (by omega), hB _ (by omega), if_pos (by unfold pb; rw [hbit]; rfl), m_mode hR.1, gd_eq (g_mode (by omega)), hmo, if_neg (show ¬ nI 2 = (1 : Int32) by decide), m_mode hR.1, gd_eq (g_mode (by omega)), hmo, if_pos (show nI 2 = (2 : Int32) from rfl), m_at hR.1, gd_eq (g_at (by omega)), hat, m_term hR.1, gd_eq (g_term (by omega)), hte, bv_eq a2, na1, na1]
        exact b2
    · obtain ⟨n', I', J', cnt', b1, b2, b3, b4, b5⟩ := ih g (j + 1) n I J cnt (by omega) (by omega) (by omega) hR hC hB hmo hte hat
      have hbit' : b.testBit ((e + j) % N) = true := by
        cases hq : b.testBit ((e + j) % N) with
        | false => exact absurd hq hbit
        | true => rfl
      refine ⟨n', I', J', cnt', ?_, ?_, b3, b4, b5⟩
      · rw [fn_FL_sendToSet_6, hR.2.1.2.1, if_neg (nnle (by omega) (by omega)), bd_eq (memb hR.2.1.1 ⟨z1, z2⟩ he (by omega)), if_neg (fun q => hbit ((bit_tst b hb5 _ (by omega)).mp q)), na1]
        exact b1
      · rw [fn_MD_ask_27, if_neg (nnle (by omega) (by omega)), m_mode hR.1, gd_eq (g_mode (by omega)), ncl (by omega), hmo, if_neg (show ¬ nI 2 = (1 : Int32) by decide), m_at hR.1, gd_eq (g_at (by omega)), hat, hR.2.1.2.2.2.2.2.2.2.1, gd_eq hnz, m_ans hR.1, nI_add, hsm, n5, nI_add, gd_eq (g_ans (by omega)), ncl (a := 5 * (r + 1) + (e + j) % N) (by omega), hB _ (by omega), if_neg (by unfold pb; rw [hbit']; decide), na1]
        exact b2
theorem ask3_ok {N W Q : Nat} (hz : sz N W Q) {K : Nat → Nat × Nat} (hK : kX N K) {e t r : Nat} (hr : r < 2) {h : Nat → Nat} (he : e < 20) {b : Nat} (hb : b < 2 ^ N) {T : Int32} {v : Int32} : ∀ (d f j n : Nat) (I J : Nat → Nat → Int32) (cnt : Nat), W - j = d → d < f → j ≤ W → R0 N W Q I J → pC N I J cnt t h → (∀ s, s < 5 → J 14 (5 * (r + 1) + s) = pb b s) → J 9 (r + 1) = nI 3 → J 10 (r + 1) = T → J 11 (r + 1) = nI e → J 13 (r + 1) = v →
    ∃ n' I' J' cnt', fn_FL_sendToSet_6 K f I 0 0 (nI (r + 1)) (nI e) v T (nI e - 1) (nI b) (nI n) (nI j) = some (nI n', I') ∧ fn_MD_ask_27 (fw_k LMl) f J 0 (nI (r + 1)) (nI n) (nI W) (nI j) = some (nI n', J') ∧ R0 N W Q I' J' ∧ pC N I' J' cnt' t h ∧ frS N t I I' J J' := by
  obtain ⟨z1, z2, z3, z4, z5, z6⟩ := hz
  have hb5 : b < 32 := Nat.lt_of_lt_of_le hb (Nat.pow_le_pow_right (n := 2) (by decide) z2)
  intro d
  induction d with
  | zero =>
    intro f j n I J cnt hd hf hj hR hC hB hmo hte hat hV
    obtain ⟨g, rfl⟩ : ∃ g, f = g + 1 := ⟨f - 1, by omega⟩
    refine ⟨n, I, J, cnt, ?_, ?_, hR, hC, frS.rf⟩
    · rw [fn_FL_sendToSet_6, hR.2.1.2.1, if_pos (nle (by omega) (by omega))]
    · rw [fn_MD_ask_27, if_pos (nle (by omega) (by omega))]
  | succ d ih =>
    intro f j n I J cnt hd hf hj hR hC hB hmo hte hat hV
    obtain ⟨g, rfl⟩ : ∃ g, f = g + 1 := ⟨f - 1, by omega⟩
    have hs : (e + j) % N < N := Nat.mod_lt _ (by omega)
    have hnz : decide (¬ nI N = 0) = true := decide_eq_true (by intro h; have := (neq (a := N) (b := 0) (by omega) (by omega)).mp h; omega)
    have hsm : nI (e + j) - nI (e + j) / nI N * nI N = nI ((e + j) % N) := set_m _ (by omega) _ (by omega) (by omega)
    by_cases hbit : b.testBit ((e + j) % N) = false
    · have hm : okm N (mf 0 (nI (r + 1)) (nI ((e + j) % N)) (nI e) v T (nI e - 1)) := ⟨0, r + 1, (e + j) % N, e, by omega, by omega, hs, he, rfl, rfl, rfl, rfl, ⟨e, by omega, rfl⟩, by omega, by omega, fun h0 => by omega⟩
      obtain ⟨I1, J1, cnt1, a1, a2, a3, a4⟩ := send_ok hK z2 hR.1 hC hm
      have hR1 := hR.send a4
      obtain ⟨n', I', J', cnt', b1, b2, b3, b4, b5⟩ := ih g (j + 1) (n + 1) I1 J1 cnt1 (by omega) (by omega) (by omega) hR1 a3 (by rw [a4.2.2.1 14 (by omega) (by omega)]; exact hB) (by rw [a4.2.2.1 9 (by omega) (by omega)]; exact hmo) (by rw [a4.2.2.1 10 (by omega) (by omega)]; exact hte) (by rw [a4.2.2.1 11 (by omega) (by omega)]; exact hat) (by rw [a4.2.2.1 13 (by omega) (by omega)]; exact hV)
      refine ⟨n', I', J', cnt', ?_, ?_, b3, b4, a4.tr b5⟩
      · rw [fn_FL_sendToSet_6, hR.2.1.2.1, if_neg (nnle (by omega) (by omega)), bd_eq (memb hR.2.1.1 ⟨z1, z2⟩ he (by omega)), if_pos ((bit_tst b hb5 _ (by omega)).mpr hbit), x_ch hK z2 hR.2.1, bv_eq a1, na1, na1]
        exact b1
      · rw [fn_MD_ask_27, if_neg (nnle (by omega) (by omega)), m_mode hR.1, gd_eq (g_mode (by omega)), ncl (by omega), hmo, if_neg (show ¬ nI 3 = (1 : Int32) by decide), m_at hR.1, gd_eq (g_at (by omega)), hat, hR.2.1.2.2.2.2.2.2.2.1, gd_eq hnz, m_ans hR.1, nI_add, hsm, n5, nI_add, gd_eq (g_ans (by omega)), ncl (a := 5 * (r + 1) + (e + j) % N) (by omega), hB _ (by omega), if_pos (by unfold pb; rw [hbit]; rfl), m_mode hR.1, gd_eq (g_mode (by omega)), hmo, if_neg (show ¬ nI 3 = (1 : Int32) by decide), m_mode hR.1, gd_eq (g_mode (by omega)), hmo, if_neg (show ¬ nI 3 = (2 : Int32) by decide), m_at hR.1, gd_eq (g_at (by omega)), hat, m_back hR.1, gd_eq (g_back (by omega)), hV, m_term hR.1, gd_eq (g_term (by omega)), hte, m_at hR.1, gd_eq (g_at (by omega)), hat, bv_eq a2, na1, na1]
        exact b2
    · obtain ⟨n', I', J', cnt', b1, b2, b3, b4, b5⟩ := ih g (j + 1) n I J cnt (by omega) (by omega) (by omega) hR hC hB hmo hte hat hV
      have hbit' : b.testBit ((e + j) % N) = true := by
        cases hq : b.testBit ((e + j) % N) with
        | false => exact absurd hq hbit
        | true => rfl
      refine ⟨n', I', J', cnt', ?_, ?_, b3, b4, b5⟩
      · rw [fn_FL_sendToSet_6, hR.2.1.2.1, if_neg (nnle (by omega) (by omega)), bd_eq (memb hR.2.1.1 ⟨z1, z2⟩ he (by omega)), if_neg (fun q => hbit ((bit_tst b hb5 _ (by omega)).mp q)), na1]
        exact b1
      · rw [fn_MD_ask_27, if_neg (nnle (by omega) (by omega)), m_mode hR.1, gd_eq (g_mode (by omega)), ncl (by omega), hmo, if_neg (show ¬ nI 3 = (1 : Int32) by decide), m_at hR.1, gd_eq (g_at (by omega)), hat, hR.2.1.2.2.2.2.2.2.2.1, gd_eq hnz, m_ans hR.1, nI_add, hsm, n5, nI_add, gd_eq (g_ans (by omega)), ncl (a := 5 * (r + 1) + (e + j) % N) (by omega), hB _ (by omega), if_neg (by unfold pb; rw [hbit']; decide), na1]
        exact b2
theorem ask1_ok {N W Q : Nat} (hz : sz N W Q) {K : Nat → Nat × Nat} (hK : kX N K) {t r : Nat} (hr : r < 2) {h : Nat → Nat} {b : Nat} (hb : b < 2 ^ N) {T : Int32} : ∀ (d f j n : Nat) (I J : Nat → Nat → Int32) (cnt : Nat), N - j = d → d < f → j ≤ N → R0 N W Q I J → pC N I J cnt t h → (∀ s, s < 5 → J 14 (5 * (r + 1) + s) = pb b s) → J 9 (r + 1) = nI 1 → J 10 (r + 1) = T → I (29 + 3 * N + r) 4 = nI b →
    ∃ n' I' J' cnt', fn_FL_sendFences_4 K f I 0 (29 + 3 * N + r) (nI n) (nI j) = some (nI n', I') ∧ fn_MD_ask_27 (fw_k LMl) f J 0 (nI (r + 1)) (nI n) (nI N) (nI j) = some (nI n', J') ∧ R0 N W Q I' J' ∧ pC N I' J' cnt' t h ∧ frS N t I I' J J' := by
  obtain ⟨z1, z2, z3, z4, z5, z6⟩ := hz
  have hb5 : b < 32 := Nat.lt_of_lt_of_le hb (Nat.pow_le_pow_right (n := 2) (by decide) z2)
  intro d
  induction d with
  | zero =>
    intro f j n I J cnt hd hf hj hR hC hB hmo hte hbb
    obtain ⟨g, rfl⟩ : ∃ g, f = g + 1 := ⟨f - 1, by omega⟩
    refine ⟨n, I, J, cnt, ?_, ?_, hR, hC, frS.rf⟩
    · rw [fn_FL_sendFences_4, hR.2.1.1, if_pos (nle (by omega) (by omega))]
    · rw [fn_MD_ask_27, if_pos (nle (by omega) (by omega))]
  | succ d ih =>
    intro f j n I J cnt hd hf hj hR hC hB hmo hte hbb
    obtain ⟨g, rfl⟩ : ∃ g, f = g + 1 := ⟨f - 1, by omega⟩
    obtain ⟨p1, p2, p3, p4, p5, -⟩ := hR.2.2.2.2 r hr
    have hT : I (29 + 3 * N + r) 2 = T := p5.trans hte
    by_cases hbit : b.testBit j = false
    · have hm : okm N (mf 1 (nI (r + 1)) (nI j) 0 0 T 0) := ⟨1, r + 1, j, 0, by omega, by omega, by omega, by omega, rfl, rfl, rfl, rfl, ⟨1, by omega, rfl⟩, by omega, by omega, fun h0 => by omega⟩
      obtain ⟨I1, J1, cnt1, a1, a2, a3, a4⟩ := send_ok hK z2 hR.1 hC hm
      have hR1 := hR.send a4
      obtain ⟨n', I', J', cnt', b1, b2, b3, b4, b5⟩ := ih g (j + 1) (n + 1) I1 J1 cnt1 (by omega) (by omega) (by omega) hR1 a3 (by rw [a4.2.2.1 14 (by omega) (by omega)]; exact hB) (by rw [a4.2.2.1 9 (by omega) (by omega)]; exact hmo) (by rw [a4.2.2.1 10 (by omega) (by omega)]; exact hte) (by rw [a4.1 _ (by omega)]; exact hbb)
      refine ⟨n', I', J', cnt', ?_, ?_, b3, b4, a4.tr b5⟩
      · rw [fn_FL_sendFences_4, hR.2.1.1, if_neg (nnle (by omega) (by omega)), hbb, if_pos ((bit_tst b hb5 _ (by omega)).mpr hbit), x_ch hK z2 hR.2.1, p2, hT, bv_eq a1, na1, na1]
        exact b1
      · rw [fn_MD_ask_27, if_neg (nnle (by omega) (by omega)), m_mode hR.1, gd_eq (g_mode (by omega)), ncl (by omega), hmo, if_pos (show nI 1 = (1 : Int32) from rfl), m_ans hR.1, n5, nI_add, gd_eq (g_ans (by omega)), ncl (a := 5 * (r + 1) + j) (by omega), hB _ (by omega), if_pos (by unfold pb; rw [hbit]; rfl), m_mode hR.1, gd_eq (g_mode (by omega)), hmo, if_pos (show nI 1 = (1 : Int32) from rfl), m_term hR.1, gd_eq (g_term (by omega)), hte, bv_eq a2, na1, na1]
        exact b2
    · obtain ⟨n', I', J', cnt', b1, b2, b3, b4, b5⟩ := ih g (j + 1) n I J cnt (by omega) (by omega) (by omega) hR hC hB hmo hte hbb
      have hbit' : b.testBit j = true := by
        cases hq : b.testBit j with
        | false => exact absurd hq hbit
        | true => rfl
      refine ⟨n', I', J', cnt', ?_, ?_, b3, b4, b5⟩
      · rw [fn_FL_sendFences_4, hR.2.1.1, if_neg (nnle (by omega) (by omega)), hbb, if_neg (fun q => hbit ((bit_tst b hb5 _ (by omega)).mp q)), na1]
        exact b1
      · rw [fn_MD_ask_27, if_neg (nnle (by omega) (by omega)), m_mode hR.1, gd_eq (g_mode (by omega)), ncl (by omega), hmo, if_pos (show nI 1 = (1 : Int32) from rfl), m_ans hR.1, n5, nI_add, gd_eq (g_ans (by omega)), ncl (a := 5 * (r + 1) + j) (by omega), hB _ (by omega), if_neg (by unfold pb; rw [hbit']; decide), na1]
        exact b2
theorem step_ok {N W Q : Nat} (hz : sz N W Q) {K : Nat → Nat × Nat} (hK : kX N K) {t r cnt m : Nat} (hr : r < 2) {h : Nat → Nat} {I J : Nat → Nat → Int32} (hR : R0 N W Q I J) (hC : pC N I J cnt t h) (hmo : J 9 (r + 1) = nI m) (hm1 : 1 ≤ m) (hm3 : m ≤ 3) :
    ∃ n' I' J' cnt', fn_FL_sendStep K I 0 (29 + 3 * N + r) = some (nI n', I') ∧ fn_MD_ask (fw_k LMl) J 0 (nI (r + 1)) = some (nI n', J') ∧ R0 N W Q I' J' ∧ pC N I' J' cnt' t h ∧ frS N t I I' J J' := by
  obtain ⟨p1, p2, p3, p4, p5, p6, ⟨e, he, p7⟩, ⟨b, hb, p8, p9⟩, p10, p11, p12⟩ := hR.2.2.2.2 r hr
  have q1 : I (29 + 3 * N + r) 1 = nI m := p3.trans hmo
  have q3 : I (29 + 3 * N + r) 3 = nI e := p6.trans p7
  match m, hm1, hm3, hmo, q1 with
  | 1, _, _, hmo, q1 =>
    obtain ⟨n', I', J', cnt', b1, b2, b3, b4, b5⟩ := ask1_ok hz hK hr hb (N - 0) 200 0 0 I J cnt rfl (by have := hz.2.1; omega) (by omega) hR hC p9 hmo rfl p8
    refine ⟨n', I', J', cnt', ?_, ?_, b3, b4, b5⟩
    · unfold fn_FL_sendStep
      rw [q1, if_pos (show nI 1 = (1 : Int32) from rfl)]
      exact bd_eq b1
    · unfold fn_MD_ask fn_MD_ask_23
      rw [m_mode hR.1, gd_eq (g_mode (by omega)), ncl (by omega), hmo, if_pos (show nI 1 = (1 : Int32) from rfl), hR.2.1.2.2.2.2.2.2.2.1]
      exact b2
  | 2, _, _, hmo, q1 =>
    obtain ⟨n', I', J', cnt', b1, b2, b3, b4, b5⟩ := ask2_ok hz hK hr he hb (W - 0) 200 0 0 I J cnt rfl (by have := hz.2.1; have := hz.2.2.2.1; omega) (by omega) hR hC p9 hmo rfl p7
    refine ⟨n', I', J', cnt', ?_, ?_, b3, b4, b5⟩
    · unfold fn_FL_sendStep
      rw [q1, if_neg (show ¬ nI 2 = (1 : Int32) by decide), if_pos (show nI 2 = (2 : Int32) from rfl), p2, q3, p5, p8]
      exact bd_eq b1
    · unfold fn_MD_ask fn_MD_ask_23
      rw [m_mode hR.1, gd_eq (g_mode (by omega)), ncl (by omega), hmo, if_neg (show ¬ nI 2 = (1 : Int32) by decide), hR.2.1.2.2.2.2.2.2.2.2.1]
      exact b2
  | 3, _, _, hmo, q1 =>
    obtain ⟨n', I', J', cnt', b1, b2, b3, b4, b5⟩ := ask3_ok hz hK hr he hb (W - 0) 200 0 0 I J cnt rfl (by have := hz.2.1; have := hz.2.2.2.1; omega) (by omega) hR hC p9 hmo rfl p7 rfl
    refine ⟨n', I', J', cnt', ?_, ?_, b3, b4, b5⟩
    · unfold fn_FL_sendStep
      rw [q1, if_neg (show ¬ nI 3 = (1 : Int32) by decide), if_neg (show ¬ nI 3 = (2 : Int32) by decide), p2, q3, p5, p8, p12]
      exact bd_eq b1
    · unfold fn_MD_ask fn_MD_ask_23
      rw [m_mode hR.1, gd_eq (g_mode (by omega)), ncl (by omega), hmo, if_neg (show ¬ nI 3 = (1 : Int32) by decide), hR.2.1.2.2.2.2.2.2.2.2.1]
      exact b2
