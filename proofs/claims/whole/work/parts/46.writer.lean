/-! the writer hears -/
def frC (N : Nat) (I I' J J' : Nat → Nat → Int32) : Prop := (∀ k, 2 + 3 * N ≤ k → k < 25 + 3 * N → I' k = I k) ∧ J' 6 = J 6 ∧ J' 0 12 = J 0 12
theorem frC.rf {N : Nat} {I J : Nat → Nat → Int32} : frC N I I J J := ⟨fun _ _ _ => rfl, rfl, rfl⟩
theorem frC.tr {N : Nat} {I I1 I2 J J1 J2 : Nat → Nat → Int32} (a : frC N I I1 J J1) (b : frC N I1 I2 J1 J2) : frC N I I2 J J2 := ⟨fun k h1 h2 => (b.1 k h1 h2).trans (a.1 k h1 h2), b.2.1.trans a.2.1, b.2.2.trans a.2.2⟩
theorem pC.fr {N cnt t : Nat} {h : Nat → Nat} {I I' J J' : Nat → Nat → Int32} (c : pC N I J cnt t h) (f : frC N I I' J J') : pC N I' J' cnt t h := c.keep f.1 f.2.1 f.2.2
/-- only the writer changes: its cells, what it has written, what was answered, its numbers -/
theorem R0.wr {N W Q : Nat} {I I' J J' : Nat → Nat → Int32} (h : R0 N W Q I J) (hI : ∀ k, k < 25 + 3 * N ∨ 28 + 3 * N ≤ k → I' k = I k) (hJ : ∀ k, k ≠ 0 → k ≠ 7 → k ≠ 8 → J' k = J k) (h0 : ∀ j, j < 14 ∨ 16 < j → J' 0 j = J 0 j) (hW : pW N I' J') : R0 N W Q I' J' ∧ frC N I I' J J' := by
  obtain ⟨h1, h2, h3, h4, h5⟩ := h
  exact ⟨⟨h1.keep (fun j hj => h0 j (by omega)), h2.keep (hI 0 (by omega)) (fun j hj => h0 j (by omega)), h3.keep (fun k _ _ => hI k (by omega)) (fun k _ _ => hJ k (by omega) (by omega) (by omega)), hW, h5.keep (fun k _ => hI k (by omega)) (fun k _ _ => hJ k (by omega) (by omega) (by omega))⟩, fun k _ _ => hI k (by omega), hJ 6 (by omega) (by omega) (by omega), h0 12 (by omega)⟩
theorem hears_0 {f k : Nat} {J : Nat → Nat → Int32} (hf : 0 < f) : fn_MD_hears_42 (fw_k LMl) f J 0 0 (nI k) = some J := by
  obtain ⟨g, rfl⟩ : ∃ g, f = g + 1 := ⟨f - 1, by omega⟩
  rw [fn_MD_hears_42]
  split
  · rfl
  · rfl
theorem pW_lac {N : Nat} {I J : Nat → Nat → Int32} (h : pW N I J) {a l : Nat} (ha : a ≤ 20) (hl : l ≤ a) (h3 : I (25 + 3 * N) 3 = nI a) (h15 : J 0 15 = nI a) : pW N (fw_up2 I (25 + 3 * N) 4 (nI l - 1)) (fw_up2 J 0 16 (nI l - 1)) := by
  obtain ⟨w1, w2, w3, -, w5⟩ := h
  refine ⟨?_, ?_, ?_, ⟨a, l, ha, hl, ?_, ?_, ?_, ?_⟩, fun e he => ?_⟩
  · rw [up_ap, if_neg (by omega)]; exact w1
  · rw [up_ap, if_neg (by omega)]; exact w2
  · rw [up_ap, if_neg (by omega), up_ap, if_neg (by omega)]; exact w3
  · rw [up_ap, if_neg (by omega)]; exact h3
  · rw [up_ap, if_neg (by omega)]; exact h15
  · rw [up_ap, if_pos ⟨rfl, rfl⟩]
  · rw [up_ap, if_pos ⟨rfl, rfl⟩]
  · rw [up_row (by omega), up_row (by omega), up_row (by omega), up_row (by omega)]
    exact w5 e he
theorem R0.lac {N W Q : Nat} {I J : Nat → Nat → Int32} (h : R0 N W Q I J) {a l : Nat} (ha : a ≤ 20) (hl : l ≤ a) (h3 : I (25 + 3 * N) 3 = nI a) (h15 : J 0 15 = nI a) : R0 N W Q (fw_up2 I (25 + 3 * N) 4 (nI l - 1)) (fw_up2 J 0 16 (nI l - 1)) ∧ frC N I (fw_up2 I (25 + 3 * N) 4 (nI l - 1)) J (fw_up2 J 0 16 (nI l - 1)) :=
  h.wr (fun k _ => up_row (by omega)) (fun k h _ _ => up_row h) (fun j _ => by rw [up_ap, if_neg (by omega)]) (pW_lac h.2.2.2.1 ha hl h3 h15)
theorem up_self (I : Nat → Nat → Int32) (k j : Nat) : fw_up2 I k j (I k j) = I := by
  funext a b
  rw [up_ap]
  by_cases h : a = k ∧ b = j
  · rw [if_pos h, h.1, h.2]
  · rw [if_neg h]
theorem lac_ok {N W Q : Nat} (hz : sz N W Q) {K : Nat → Nat × Nat} (hK : kX N K) {a : Nat} (ha : a ≤ 20) : ∀ (d f l k : Nat) (I J : Nat → Nat → Int32), a - l = d → d + 1 < f → l ≤ a → k ≤ l → R0 N W Q I J → I (25 + 3 * N) 3 = nI a → J 0 15 = nI a → I (25 + 3 * N) 4 = nI l - 1 → J 0 16 = nI l - 1 →
    ∃ I' J', fn_WR_advanceLac_7 K f I (25 + 3 * N) (nI Q) (nI l) = some I' ∧ fn_MD_hears_42 (fw_k LMl) f J 0 1 (nI k) = some J' ∧ R0 N W Q I' J' ∧ frC N I I' J J' := by
  have z2 := hz.2.1
  have z4 := hz.2.2.2.1
  have z6 := hz.2.2.2.2.2
  intro d
  induction d with
  | zero =>
    intro f l k I J hd hf hl hk hR h3 h15 h4 h16
    obtain ⟨g, rfl⟩ : ∃ g, f = g + 1 := ⟨f - 1, by omega⟩
    refine ⟨I, J, ?_, ?_, hR, frC.rf⟩
    · rw [fn_WR_advanceLac_7, h3, if_pos (nle (by omega) (by omega))]
    · rw [fn_MD_hears_42]
      by_cases h20 : 20 ≤ k
      · rw [if_pos (show (20 : Int32) ≤ nI k from nle (a := 20) h20 (by omega))]
      · rw [if_neg (show ¬ (20 : Int32) ≤ nI k from nnle (a := 20) (by omega) (by omega)), if_neg (by decide), h15, h16, add_1, if_pos (nle (by omega) (by omega)), let_eq, na1, show nI l - 1 + 0 = J 0 16 by rw [h16]; exact Int32.add_zero _, up_self]
        exact hears_0 (by omega)
  | succ d ih =>
    intro f l k I J hd hf hl hk hR h3 h15 h4 h16
    obtain ⟨g, rfl⟩ : ∃ g, f = g + 1 := ⟨f - 1, by omega⟩
    obtain ⟨w1, w2, w3, w4, w5⟩ := hR.2.2.2.1
    obtain ⟨-, b, hb, hb1, hb2⟩ := w5 l (by omega)
    have hb5 := b32 hz hb
    have hpc := pc5_lt b hb5
    have hca : fn_WR_countAnswers K I (25 + 3 * N) (nI l) = some (nI (pc5 b), I) := by
      unfold fn_WR_countAnswers
      rw [x_wa hK z2 hR.2.2.2.1, gd_eq (xg_wa hK (by omega)), ncl (by omega)]
      exact bd_eq (bc_eq hb1 hb5)
    have hak := ack_ok hz hR (by omega : l < 20) hb hb2
    have e1 : fn_MD_hears_42 (fw_k LMl) (g + 1) J 0 1 (nI k) = if nI (pc5 b) < nI Q then fn_MD_hears_42 (fw_k LMl) g J 0 0 (nI (k + 1)) else fn_MD_hears_42 (fw_k LMl) g (fw_up2 J 0 16 (nI l)) 0 1 (nI (k + 1)) := by
      rw [fn_MD_hears_42, if_neg (show ¬ (20 : Int32) ≤ nI k from nnle (a := 20) (by omega) (by omega)), if_neg (by decide), h15, h16, add_1, if_neg (nnle (by omega) (by omega)), if_neg (nnle (by omega) (by omega)), bd_eq hak, hR.2.1.2.2.2.2.2.2.2.2.2.1, h16, let_eq, let_eq, na1, add_1, show nI l - 1 + 0 = J 0 16 by rw [h16]; exact Int32.add_zero _, up_self]
    by_cases hq : pc5 b < Q
    · refine ⟨I, J, ?_, ?_, hR, frC.rf⟩
      · rw [fn_WR_advanceLac_7, h3, if_neg (nnle (by omega) (by omega)), bd_eq hca, if_pos (nlt hq (by omega))]
      · rw [e1, if_pos (nlt hq (by omega))]
        exact hears_0 (by omega)
    · have hl1 := hR.lac ha (show l + 1 ≤ a by omega) h3 h15
      rw [sub_1] at hl1
      obtain ⟨I', J', c1, c2, c3, c4⟩ := ih g (l + 1) (k + 1) _ _ (by omega) (by omega) (by omega) (by omega) hl1.1 (by rw [up_ap, if_neg (by omega)]; exact h3) (by rw [up_ap, if_neg (by omega)]; exact h15) (by rw [up_ap, if_pos ⟨rfl, rfl⟩, sub_1]) (by rw [up_ap, if_pos ⟨rfl, rfl⟩, sub_1])
      refine ⟨I', J', ?_, ?_, c3, hl1.2.tr c4⟩
      · rw [fn_WR_advanceLac_7, h3, if_neg (nnle (by omega) (by omega)), bd_eq hca, if_neg (nnlt (by omega) (by omega)), let_eq, na1]
        exact c1
      · rw [e1, if_neg (nnlt (by omega) (by omega))]
        exact c2
theorem hear_ok {N W Q : Nat} (hz : sz N W Q) {K : Nat → Nat × Nat} (hK : kX N K) {I J : Nat → Nat → Int32} (hR : R0 N W Q I J) {k1 kd s e : Nat} (h0 : I k1 0 = nI kd) (h2 : I k1 2 = nI s) (h3 : I k1 3 = nI e) (hkd : kd = 3 ∨ kd = 4) (hs : s < N) (he : e < 20) :
    ∃ I' J', fn_WR_hear K I (25 + 3 * N) k1 (nI Q) = some I' ∧ fn_MD_hears (fw_k LMl) J 0 (nI kd) (nI s) (nI e) = some J' ∧ R0 N W Q I' J' ∧ frC N I I' J J' := by
  have z2 := hz.2.1
  obtain ⟨w1, w2, w3, ⟨a, l, ha, hl, w4, w5, w6, w7⟩, w8⟩ := hR.2.2.2.1
  by_cases hst : J 0 14 = 0
  · rcases hkd with rfl | rfl
    · obtain ⟨-, b, hb, hb1, hb2⟩ := w8 e he
      have hb5 := b32 hz hb
      have hbn := bit_lt N (by omega) b hb s hs
      have hR1 := hR.wr (I' := fw_up2 I (27 + 3 * N) e (nI (b ||| 2 ^ s))) (J' := fw_up2 J 8 (20 * s + e) 1) (fun k _ => up_row (by omega)) (fun k _ _ h => up_row h) (fun j _ => by rw [up_row (by decide)]) (by
        refine ⟨?_, ?_, ?_, ⟨a, l, ha, hl, ?_, ?_, ?_, ?_⟩, fun e' he' => ?_⟩
        · rw [up_row (by omega)]; exact w1
        · rw [up_row (by omega)]; exact w2
        · rw [up_row (by omega), up_row (by decide)]; exact w3
        · rw [up_row (by omega)]; exact w4
        · rw [up_row (by decide)]; exact w5
        · rw [up_row (by omega)]; exact w6
        · rw [up_row (by decide)]; exact w7
        · rw [up_row (by omega), up_row (k' := 7) (by decide)]
          refine ⟨(w8 e' he').1, ?_⟩
          by_cases hee : e' = e
          · subst hee
            refine ⟨b ||| 2 ^ s, hbn, by rw [up_ap, if_pos ⟨rfl, rfl⟩], fun s' hs' => ?_⟩
            rw [up_ap]
            unfold pb
            rw [bit_t b hb5 s (by omega) s' hs']
            by_cases hss : s' = s
            · subst hss
              rw [if_pos ⟨rfl, rfl⟩, decide_eq_true rfl]
              rfl
            · rw [if_neg (by omega), decide_eq_false hss, Bool.false_or]
              exact hb2 s' hs'
          · obtain ⟨-, b', q1, q2, q3⟩ := w8 e' he'
            refine ⟨b', q1, by rw [up_ap, if_neg (by omega)]; exact q2, fun s' hs' => ?_⟩
            rw [up_ap, if_neg (by omega)]
            exact q3 s' hs')
      obtain ⟨I', J', c1, c2, c3, c4⟩ := lac_ok hz hK ha (a - l) 200 l 0 _ _ rfl (by omega) hl (by omega) hR1.1 (by rw [up_row (by omega)]; exact w4) (by rw [up_row (by decide)]; exact w5) (by rw [up_row (by omega)]; exact w6) (by rw [up_row (by decide)]; exact w7)
      refine ⟨I', J', ?_, ?_, c3, hR1.2.tr c4⟩
      · unfold fn_WR_hear
        rw [w3, if_pos hst, h0, if_neg (show ¬ nI 3 = (4 : Int32) by decide), x_wa hK z2 hR.2.2.2.1, h3, gd_eq (xg_wa hK he), gd_eq (xg_wa hK he), ncl (by omega), hb1, h2, bit_or b hb5 s (by omega), let_eq]
        refine bv_eq ?_
        unfold fn_WR_advanceLac
        rw [up_row (by omega), w6, add_1]
        exact c1
      · unfold fn_MD_hears fn_MD_hears_18
        rw [if_pos hst, if_neg (show ¬ nI 3 = (4 : Int32) by decide), if_pos (show nI 3 = (3 : Int32) from rfl), m_ack hR.1, n20, nI_add, gd_eq (g_ack (by omega)), ncl (by omega), let_eq]
        exact c2
    · have hR1 := hR.wr (I' := fw_up2 I (25 + 3 * N) 2 1) (J' := fw_up2 J 0 14 1) (fun k _ => up_row (by omega)) (fun k h _ _ => up_row h) (fun j _ => by rw [up_ap, if_neg (by omega)]) (by
        refine ⟨?_, ?_, ?_, ⟨a, l, ha, hl, ?_, ?_, ?_, ?_⟩, fun e' he' => ?_⟩
        · rw [up_ap, if_neg (by omega)]; exact w1
        · rw [up_ap, if_neg (by omega)]; exact w2
        · rw [up_ap, if_pos ⟨rfl, rfl⟩, up_ap, if_pos ⟨rfl, rfl⟩]
        · rw [up_ap, if_neg (by omega)]; exact w4
        · rw [up_ap, if_neg (by omega)]; exact w5
        · rw [up_ap, if_neg (by omega)]; exact w6
        · rw [up_ap, if_neg (by omega)]; exact w7
        · rw [up_row (by omega), up_row (k' := 7) (by decide), up_row (by omega), up_row (k' := 8) (by decide)]
          exact w8 e' he')
      refine ⟨_, _, ?_, ?_, hR1.1, hR1.2⟩
      · unfold fn_WR_hear
        rw [w3, if_pos hst, h0, if_pos (show nI 4 = (4 : Int32) from rfl)]
        rfl
      · unfold fn_MD_hears fn_MD_hears_18
        rw [if_pos hst, if_pos (show nI 4 = (4 : Int32) from rfl), let_eq, if_neg (show ¬ nI 4 = (3 : Int32) by decide)]
  · refine ⟨I, J, ?_, ?_, hR, frC.rf⟩
    · unfold fn_WR_hear
      rw [w3, if_neg hst]
    · unfold fn_MD_hears
      rw [if_neg hst]
