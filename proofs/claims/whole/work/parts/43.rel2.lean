/-! the whole relation, and what leaves its parts alone -/
theorem pM.keep {J J' : Nat → Nat → Int32} (h : pM J) (hJ : ∀ j, (4 ≤ j ∧ j ≤ 8) ∨ j = 13 ∨ 17 ≤ j → J' 0 j = J 0 j) : pM J' := by
  unfold pM
  rw [hJ 4 (by omega), hJ 5 (by omega), hJ 6 (by omega), hJ 7 (by omega), hJ 8 (by omega), hJ 13 (by omega), hJ 17 (by omega), hJ 18 (by omega), hJ 19 (by omega), hJ 20 (by omega), hJ 21 (by omega), hJ 22 (by omega), hJ 23 (by omega), hJ 24 (by omega)]
  exact h
theorem pF.keep {N W Q : Nat} {I I' J J' : Nat → Nat → Int32} (h : pF N W Q I J) (hI : I' 0 = I 0) (hJ : ∀ j, (1 ≤ j ∧ j ≤ 3) ∨ (9 ≤ j ∧ j ≤ 11) → J' 0 j = J 0 j) : pF N W Q I' J' := by
  unfold pF
  rw [hI, hJ 1 (by omega), hJ 2 (by omega), hJ 3 (by omega), hJ 9 (by omega), hJ 10 (by omega), hJ 11 (by omega)]
  exact h
theorem pS.keep {N : Nat} {I I' J J' : Nat → Nat → Int32} (h : pS N I J) (hI : ∀ k, 1 ≤ k → k < 2 + 3 * N → I' k = I k) (hJ : ∀ k, 1 ≤ k → k ≤ 5 → J' k = J k) : pS N I' J' := by
  intro s hs
  rw [hI 1 (by omega) (by omega), hI (2 + 3 * s) (by omega) (by omega), hI (3 + 3 * s) (by omega) (by omega), hI (4 + 3 * s) (by omega) (by omega), hJ 1 (by omega) (by omega), hJ 2 (by omega) (by omega), hJ 3 (by omega) (by omega), hJ 4 (by omega) (by omega), hJ 5 (by omega) (by omega)]
  exact h s hs
theorem pW.keep {N : Nat} {I I' J J' : Nat → Nat → Int32} (h : pW N I J) (hI : ∀ k, 25 + 3 * N ≤ k → k < 28 + 3 * N → I' k = I k) (h7 : J' 7 = J 7) (h8 : J' 8 = J 8) (hJ : ∀ j, 14 ≤ j → j ≤ 16 → J' 0 j = J 0 j) : pW N I' J' := by
  unfold pW
  rw [hI (25 + 3 * N) (by omega) (by omega), hI (26 + 3 * N) (by omega) (by omega), hI (27 + 3 * N) (by omega) (by omega), h7, h8, hJ 14 (by omega) (by omega), hJ 15 (by omega) (by omega), hJ 16 (by omega) (by omega)]
  exact h
theorem pR.keep {N : Nat} {I I' J J' : Nat → Nat → Int32} (h : pR N I J) (hI : ∀ k, 28 + 3 * N ≤ k → I' k = I k) (hJ : ∀ k, 9 ≤ k → k ≤ 14 → J' k = J k) : pR N I' J' := by
  intro r hr
  rw [hI (28 + 3 * N) (by omega), hI (29 + 3 * N + r) (by omega), hJ 9 (by omega) (by omega), hJ 10 (by omega) (by omega), hJ 11 (by omega) (by omega), hJ 12 (by omega) (by omega), hJ 13 (by omega) (by omega), hJ 14 (by omega) (by omega)]
  exact h r hr
theorem pC.keep {N cnt t : Nat} {h : Nat → Nat} {I I' J J' : Nat → Nat → Int32} (c : pC N I J cnt t h) (hI : ∀ k, 2 + 3 * N ≤ k → k < 25 + 3 * N → I' k = I k) (h6 : J' 6 = J 6) (hJ : J' 0 12 = J 0 12) : pC N I' J' cnt t h := by
  obtain ⟨c1, c2, c3, c4, c5, c6, c7, c8, c9⟩ := c
  refine ⟨c1, c2, ?_, ?_, ?_, ?_, ?_, c8, fun i hi => ?_⟩
  · rw [hI _ (by omega) (by omega)]; exact c3
  · rw [hI _ (by omega) (by omega)]; exact c4
  · rw [hI _ (by omega) (by omega)]; exact c5
  · rw [hJ]; exact c6
  · rw [hI (3 + 3 * N) (by omega) (by omega)]; exact c7
  · rw [h6, hI (4 + 3 * N + h i) (by omega) (by have := (c7 i (by omega)).2.1; omega)]
    exact c9 i hi
/-- all but the channel -/
def R0 (N W Q : Nat) (I J : Nat → Nat → Int32) : Prop := pM J ∧ pF N W Q I J ∧ pS N I J ∧ pW N I J ∧ pR N I J
theorem R0.send {N W Q t : Nat} {I I' J J' : Nat → Nat → Int32} (h : R0 N W Q I J) (f : frS N t I I' J J') : R0 N W Q I' J' := by
  obtain ⟨h1, h2, h3, h4, h5⟩ := h
  obtain ⟨f1, f2, f3, f4⟩ := f
  exact ⟨h1.keep (fun j _ => f4 j (by omega)), h2.keep (f1 0 (by omega)) (fun j _ => f4 j (by omega)), h3.keep (fun k _ _ => f1 k (by omega)) (fun k _ _ => f3 k (by omega) (by omega)), h4.keep (fun k _ _ => f1 k (by omega)) (f3 7 (by omega) (by omega)) (f3 8 (by omega) (by omega)) (fun j _ _ => f4 j (by omega)), h5.keep (fun k _ => f1 k (by omega)) (fun k _ _ => f3 k (by omega) (by omega))⟩
/-- the sizes -/
def sz (N W Q : Nat) : Prop := 3 ≤ N ∧ N ≤ 5 ∧ 2 ≤ W ∧ W ≤ N ∧ 1 ≤ Q ∧ Q ≤ W
def Rel (N W Q : Nat) (I J : Nat → Nat → Int32) : Prop := R0 N W Q I J ∧ ∃ cnt t h, pC N I J cnt t h
/-- thrown is nobody's -/
theorem R0.thr {N W Q : Nat} {I J : Nat → Nat → Int32} {x : Int32} (h : R0 N W Q I J) : R0 N W Q I (fw_up2 J 0 0 x) := by
  obtain ⟨h1, h2, h3, h4, h5⟩ := h
  have f3 : ∀ k, k ≠ 0 → fw_up2 J 0 0 x k = J k := fun k hk => up_row hk
  have f4 : ∀ j, j ≠ 0 → fw_up2 J 0 0 x 0 j = J 0 j := fun j hj => by rw [up_ap, if_neg (fun q => hj q.2)]
  exact ⟨h1.keep (fun j _ => f4 j (by omega)), h2.keep rfl (fun j _ => f4 j (by omega)), h3.keep (fun k _ _ => rfl) (fun k _ _ => f3 k (by omega)), h4.keep (fun k _ _ => rfl) (f3 7 (by omega)) (f3 8 (by omega)) (fun j _ _ => f4 j (by omega)), h5.keep (fun k _ => rfl) (fun k _ _ => f3 k (by omega))⟩
theorem pC.thr {N cnt t : Nat} {h : Nat → Nat} {I J : Nat → Nat → Int32} {x : Int32} (c : pC N I J cnt t h) : pC N I (fw_up2 J 0 0 x) cnt t h := c.keep (fun _ _ _ => rfl) (up_row (by decide)) (by rw [up_ap, if_neg (by omega)])
theorem Rel.thr {N W Q : Nat} {I J : Nat → Nat → Int32} {x : Int32} (h : Rel N W Q I J) : Rel N W Q I (fw_up2 J 0 0 x) := by
  obtain ⟨h0, cnt, t, hh, hc⟩ := h
  exact ⟨h0.thr, cnt, t, hh, hc.thr⟩
section XL
variable {ρ : Type} {N W Q : Nat} {K : Nat → Nat × Nat} {I J : Nat → Nat → Int32}
theorem x_sto (hK : kX N K) (h : pF N W Q I J) (f : Nat → Option ρ) : fw_ld K (I 0 3) 23 f = f 1 := ld_eq h.2.2.2.1 (by omega) (by rw [hK.2.1])
theorem x_ch (hK : kX N K) (hN : N ≤ 5) (h : pF N W Q I J) (f : Nat → Option ρ) : fw_ld K (I 0 4) 0 f = f (2 + 3 * N) := ld_eq h.2.2.2.2.1 (by omega) hK.2.2.2.1
theorem x_wr (hK : kX N K) (hN : N ≤ 5) (h : pF N W Q I J) (f : Nat → Option ρ) : fw_ld K (I 0 5) 4 f = f (25 + 3 * N) := ld_eq h.2.2.2.2.2.1 (by omega) hK.2.2.2.2.2.2.1
theorem x_rec (hK : kX N K) (hN : N ≤ 5) (h : pF N W Q I J) (f : Nat → Option ρ) : fw_ld K (I 0 6) 25 f = f (28 + 3 * N) := ld_eq h.2.2.2.2.2.2.1 (by omega) (by rw [hK.2.2.2.2.2.2.2.2.2.1])
theorem x_s (hK : kX N K) (hN : N ≤ 5) (h : pS N I J) {s : Nat} (hs : s < N) (f : Nat → Option ρ) : fw_ld K (I 1 s) 3 f = f (2 + 3 * s) := ld_eq (h s hs).1 (by omega) (hK.2.2.1 s hs).1
theorem x_sk (hK : kX N K) (hN : N ≤ 5) (h : pS N I J) {s : Nat} (hs : s < N) (f : Nat → Option ρ) : fw_ld K (I (2 + 3 * s) 0) 21 f = f (3 + 3 * s) := ld_eq (h s hs).2.1 (by omega) (by rw [(hK.2.2.1 s hs).2.1])
theorem x_sv (hK : kX N K) (hN : N ≤ 5) (h : pS N I J) {s : Nat} (hs : s < N) (f : Nat → Option ρ) : fw_ld K (I (2 + 3 * s) 1) 20 f = f (4 + 3 * s) := ld_eq (h s hs).2.2.1 (by omega) (by rw [(hK.2.2.1 s hs).2.2])
theorem x_wv (hK : kX N K) (hN : N ≤ 5) (h : pW N I J) (f : Nat → Option ρ) : fw_ld K (I (25 + 3 * N) 0) 20 f = f (26 + 3 * N) := ld_eq h.1 (by omega) (by rw [hK.2.2.2.2.2.2.2.1])
theorem x_wa (hK : kX N K) (hN : N ≤ 5) (h : pW N I J) (f : Nat → Option ρ) : fw_ld K (I (25 + 3 * N) 1) 20 f = f (27 + 3 * N) := ld_eq h.2.1 (by omega) (by rw [hK.2.2.2.2.2.2.2.2.1])
theorem x_r (hK : kX N K) (hN : N ≤ 5) (h : pR N I J) {r : Nat} (hr : r < 2) (f : Nat → Option ρ) : fw_ld K (I (28 + 3 * N) r) 2 f = f (29 + 3 * N + r) := ld_eq (h r hr).1 (by omega) (hK.2.2.2.2.2.2.2.2.2.2 r hr)
theorem xg_sto (hK : kX N K) (hN : N ≤ 5) {s : Nat} (hs : s < N) : fw_ix (nI s) (K 1).2 = true := ix_eq rfl (by rw [hK.2.1]; exact hs) (by omega)
theorem xg_sk (hK : kX N K) {s e : Nat} (hs : s < N) (he : e < 20) : fw_ix (nI e) (K (3 + 3 * s)).2 = true := ix_eq rfl (by rw [(hK.2.2.1 s hs).2.1]; exact he) (by omega)
theorem xg_sv (hK : kX N K) {s e : Nat} (hs : s < N) (he : e < 20) : fw_ix (nI e) (K (4 + 3 * s)).2 = true := ix_eq rfl (by rw [(hK.2.2.1 s hs).2.2]; exact he) (by omega)
theorem xg_wv (hK : kX N K) {e : Nat} (he : e < 20) : fw_ix (nI e) (K (26 + 3 * N)).2 = true := ix_eq rfl (by rw [hK.2.2.2.2.2.2.2.1]; exact he) (by omega)
theorem xg_wa (hK : kX N K) {e : Nat} (he : e < 20) : fw_ix (nI e) (K (27 + 3 * N)).2 = true := ix_eq rfl (by rw [hK.2.2.2.2.2.2.2.2.1]; exact he) (by omega)
theorem xg_r (hK : kX N K) {r : Nat} (hr : r < 2) : fw_ix (nI r) (K (28 + 3 * N)).2 = true := ix_eq rfl (by rw [hK.2.2.2.2.2.2.2.2.2.1]; exact hr) (by omega)
end XL
/-! sending to the set of an entry -/
theorem memb {N e j : Nat} {I : Nat → Nat → Int32} {K : Nat → Nat × Nat} (h0 : I 0 0 = nI N) (hN : 3 ≤ N ∧ N ≤ 5) (he : e < 20) (hj : j < 5) : fn_FL_setMember K I 0 (nI e) (nI j) = some (nI ((e + j) % N), I) := by
  unfold fn_FL_setMember
  rw [h0, gd_eq (decide_eq_true (by intro h; have := (neq (a := N) (b := 0) (by omega) (by omega)).mp h; omega)), nI_add, set_m _ (by omega) _ (by omega) (by omega)]
theorem spread_ok {N W Q : Nat} (hz : sz N W Q) {K : Nat → Nat × Nat} (hK : kX N K) {e t : Nat} {h : Nat → Nat} (he : e < 20) {b : Nat} (hb : b < 2 ^ N) {l : Nat} (hl : l ≤ 20) {v : Int32} : ∀ (d f j n : Nat) (I J : Nat → Nat → Int32) (cnt : Nat), W - j = d → d < f → j ≤ W → R0 N W Q I J → pC N I J cnt t h → (∀ s, s < 5 → J 8 (20 * s + e) = pb b s) → J 7 e = v → J 0 16 = nI l - 1 →
    ∃ n' I' J' cnt', fn_FL_sendToSet_6 K f I 0 0 0 (nI e) v 0 (nI l - 1) (nI b) (nI n) (nI j) = some (nI n', I') ∧ fn_MD_spread_4 (fw_k LMl) f J 0 (nI e) (nI n) (nI j) = some (nI n', J') ∧ R0 N W Q I' J' ∧ pC N I' J' cnt' t h ∧ frS N t I I' J J' := by
  obtain ⟨z1, z2, z3, z4, z5, z6⟩ := hz
  have hb5 : b < 32 := Nat.lt_of_lt_of_le hb (Nat.pow_le_pow_right (n := 2) (by decide) z2)
  intro d
  induction d with
  | zero =>
    intro f j n I J cnt hd hf hj hR hC hB hV hl1
    obtain ⟨g, rfl⟩ : ∃ g, f = g + 1 := ⟨f - 1, by omega⟩
    refine ⟨n, I, J, cnt, ?_, ?_, hR, hC, frS.rf⟩
    · rw [fn_FL_sendToSet_6, hR.2.1.2.1, if_pos (nle (by omega) (by omega))]
    · rw [fn_MD_spread_4, hR.2.1.2.2.2.2.2.2.2.2.1, if_pos (nle (by omega) (by omega))]
  | succ d ih =>
    intro f j n I J cnt hd hf hj hR hC hB hV hl1
    obtain ⟨g, rfl⟩ : ∃ g, f = g + 1 := ⟨f - 1, by omega⟩
    have hs : (e + j) % N < N := Nat.mod_lt _ (by omega)
    have hnz : decide (¬ nI N = 0) = true := decide_eq_true (by intro h; have := (neq (a := N) (b := 0) (by omega) (by omega)).mp h; omega)
    have hsm : nI (e + j) - nI (e + j) / nI N * nI N = nI ((e + j) % N) := set_m _ (by omega) _ (by omega) (by omega)
    by_cases hbit : b.testBit ((e + j) % N) = false
    · have hm : okm N (mf 0 0 (nI ((e + j) % N)) (nI e) v 0 (nI l - 1)) := ⟨0, 0, (e + j) % N, e, by omega, by omega, hs, he, rfl, rfl, rfl, rfl, ⟨l, hl, rfl⟩, by omega, by omega, fun _ => ⟨Or.inl rfl, rfl⟩⟩
      obtain ⟨I1, J1, cnt1, a1, a2, a3, a4⟩ := send_ok hK z2 hR.1 hC hm
      have hR1 := hR.send a4
      obtain ⟨n', I', J', cnt', b1, b2, b3, b4, b5⟩ := ih g (j + 1) (n + 1) I1 J1 cnt1 (by omega) (by omega) (by omega) hR1 a3 (by rw [a4.2.2.1 8 (by omega) (by omega)]; exact hB) (by rw [a4.2.2.1 7 (by omega) (by omega)]; exact hV) (by rw [a4.2.2.2 16 (by omega)]; exact hl1)
      refine ⟨n', I', J', cnt', ?_, ?_, b3, b4, a4.tr b5⟩
      · rw [fn_FL_sendToSet_6, hR.2.1.2.1, if_neg (nnle (by omega) (by omega)), bd_eq (memb hR.2.1.1 ⟨z1, z2⟩ he (by omega)), if_pos ((bit_tst b hb5 _ (by omega)).mpr hbit), x_ch hK z2 hR.2.1, bv_eq a1, na1, na1]
        exact b1
      · rw [fn_MD_spread_4, hR.2.1.2.2.2.2.2.2.2.2.1, if_neg (nnle (by omega) (by omega)), hR.2.1.2.2.2.2.2.2.2.1, gd_eq hnz, m_ack hR.1, nI_add, hsm, n20, nI_add, gd_eq (g_ack (by omega)), ncl (by omega), hB _ (by omega), if_pos (by unfold pb; rw [hbit]; rfl), m_wri hR.1, gd_eq (g_wri he), ncl (by omega), hV, hl1, bv_eq a2, na1, na1]
        exact b2
    · obtain ⟨n', I', J', cnt', b1, b2, b3, b4, b5⟩ := ih g (j + 1) n I J cnt (by omega) (by omega) (by omega) hR hC hB hV hl1
      have hbit' : b.testBit ((e + j) % N) = true := by
        cases hq : b.testBit ((e + j) % N) with
        | false => exact absurd hq hbit
        | true => rfl
      refine ⟨n', I', J', cnt', ?_, ?_, b3, b4, b5⟩
      · rw [fn_FL_sendToSet_6, hR.2.1.2.1, if_neg (nnle (by omega) (by omega)), bd_eq (memb hR.2.1.1 ⟨z1, z2⟩ he (by omega)), if_neg (fun q => hbit ((bit_tst b hb5 _ (by omega)).mp q)), na1]
        exact b1
      · rw [fn_MD_spread_4, hR.2.1.2.2.2.2.2.2.2.2.1, if_neg (nnle (by omega) (by omega)), hR.2.1.2.2.2.2.2.2.2.1, gd_eq hnz, m_ack hR.1, nI_add, hsm, n20, nI_add, gd_eq (g_ack (by omega)), ncl (by omega), hB _ (by omega), if_neg (by unfold pb; rw [hbit']; decide), na1]
        exact b2
