/-! taking a message out -/
theorem g_off {p : Nat} (h : p < 5) : fw_ix (nI p) (fw_k LMl 1).2 = true := ix_eq rfl h (by omega)
theorem g_fen {p : Nat} (h : p < 5) : fw_ix (nI p) (fw_k LMl 2).2 = true := ix_eq rfl h (by omega)
theorem g_mark {p : Nat} (h : p < 5) : fw_ix (nI p) (fw_k LMl 3).2 = true := ix_eq rfl h (by omega)
theorem g_held {p : Nat} (h : p < 100) : fw_ix (nI p) (fw_k LMl 4).2 = true := ix_eq rfl h (by omega)
theorem g_hv {p : Nat} (h : p < 100) : fw_ix (nI p) (fw_k LMl 5).2 = true := ix_eq rfl h (by omega)
theorem g_fly {p : Nat} (h : p < 140) : fw_ix (nI p) (fw_k LMl 6).2 = true := ix_eq rfl h (by omega)
theorem g_wri {p : Nat} (h : p < 20) : fw_ix (nI p) (fw_k LMl 7).2 = true := ix_eq rfl h (by omega)
theorem g_ack {p : Nat} (h : p < 100) : fw_ix (nI p) (fw_k LMl 8).2 = true := ix_eq rfl h (by omega)
theorem g_mode {p : Nat} (h : p < 3) : fw_ix (nI p) (fw_k LMl 9).2 = true := ix_eq rfl h (by omega)
theorem g_term {p : Nat} (h : p < 3) : fw_ix (nI p) (fw_k LMl 10).2 = true := ix_eq rfl h (by omega)
theorem g_at {p : Nat} (h : p < 3) : fw_ix (nI p) (fw_k LMl 11).2 = true := ix_eq rfl h (by omega)
theorem g_high {p : Nat} (h : p < 3) : fw_ix (nI p) (fw_k LMl 12).2 = true := ix_eq rfl h (by omega)
theorem g_back {p : Nat} (h : p < 3) : fw_ix (nI p) (fw_k LMl 13).2 = true := ix_eq rfl h (by omega)
theorem g_ans {p : Nat} (h : p < 15) : fw_ix (nI p) (fw_k LMl 14).2 = true := ix_eq rfl h (by omega)
theorem take_loop {N : Nat} {K : Nat → Nat × Nat} (hK : kX N K) (hN : N ≤ 5) {cnt tt : Nat} (hc : cnt ≤ 20) (hc0 : 0 < cnt) (htt : tt < 21) {y2 : Int32} : ∀ (d f x : Nat) (I : Nat → Nat → Int32), cnt - x = d → d < f → 0 < x → x ≤ cnt → I (2 + 3 * N) 0 = nI (3 + 3 * N) → I (2 + 3 * N) 1 = nI (4 + 3 * N + tt) → I (2 + 3 * N) 2 = nI cnt → (∀ p, p < 20 → ∃ a, a < 21 ∧ I (3 + 3 * N) p = nI (4 + 3 * N + a)) →
    ∃ I', fn_CH_takeOut_19 K f I (2 + 3 * N) y2 (nI x) = some (nI (4 + 3 * N + tt), I') ∧ (∀ p, I' (3 + 3 * N) p = if p = cnt - 1 then y2 else if x - 1 ≤ p ∧ p < cnt - 1 then I (3 + 3 * N) (p + 1) else I (3 + 3 * N) p) ∧ I' (2 + 3 * N) 2 = nI (cnt - 1) ∧ (∀ j, j ≠ 2 → I' (2 + 3 * N) j = I (2 + 3 * N) j) ∧ ∀ k, k ≠ 2 + 3 * N → k ≠ 3 + 3 * N → I' k = I k := by
  intro d
  induction d with
  | zero =>
    intro f x I hd hf h0 hx c3 c4 c5 hr
    obtain ⟨g, rfl⟩ : ∃ g, f = g + 1 := ⟨f - 1, by omega⟩
    have hxc : x = cnt := by omega
    subst hxc
    obtain ⟨y, rfl⟩ : ∃ y, x = y + 1 := ⟨x - 1, by omega⟩
    have r1 : fw_up2 I (2 + 3 * N) 2 (nI y) (2 + 3 * N) 0 = nI (3 + 3 * N) := by rw [up_ap, if_neg (by omega), c3]
    have r2 : fw_up2 I (2 + 3 * N) 2 (nI y) (2 + 3 * N) 2 = nI y := by rw [up_ap, if_pos ⟨rfl, rfl⟩]
    have r3 : fw_up2 (fw_up2 I (2 + 3 * N) 2 (nI y)) (3 + 3 * N) y y2 (2 + 3 * N) 1 = nI (4 + 3 * N + tt) := by rw [up_row (by omega), up_ap, if_neg (by omega), c4]
    refine ⟨fw_up2 (fw_up2 I (2 + 3 * N) 2 (nI y)) (3 + 3 * N) y y2, ?_, fun p => ?_, ?_, fun j hj => ?_, fun k h1 h2 => ?_⟩
    · rw [fn_CH_takeOut_19, if_pos (by rw [c5]; exact nle (by omega) (by omega)), c5, sub_1, let_eq, ld_eq r1 (by omega) (by rw [hK.2.2.2.2.1]), gd_eq (ix_eq r2 (by rw [hK.2.2.2.2.1]; show y < 20; omega) (by omega)), let_eq, r2, ncl (by omega), ld_eq r3 (by omega) (hK.2.2.2.2.2.1 _ htt), r3]
    · rw [up_ap]
      by_cases hp : p = y
      · rw [if_pos ⟨rfl, hp⟩, if_pos (by omega)]
      · rw [if_neg (fun h => hp h.2), if_neg (by omega), if_neg (by omega), up_row (by omega)]
    · rw [up_row (by omega), r2]
      rfl
    · rw [up_row (by omega), up_ap, if_neg (fun h => hj h.2)]
    · rw [up_row h2, up_row h1]
  | succ d ih =>
    intro f x I hd hf h0 hx c3 c4 c5 hr
    obtain ⟨g, rfl⟩ : ∃ g, f = g + 1 := ⟨f - 1, by omega⟩
    obtain ⟨y, rfl⟩ : ∃ y, x = y + 1 := ⟨x - 1, by omega⟩
    obtain ⟨a, ha, hra⟩ := hr (y + 1) (by omega)
    obtain ⟨I', e1, e2, e3, e4, e5⟩ := ih g (y + 2) (fw_up2 I (3 + 3 * N) y (I (3 + 3 * N) (y + 1))) (by omega) (by omega) (by omega) (by omega) (by rw [up_row (by omega)]; exact c3) (by rw [up_row (by omega)]; exact c4) (by rw [up_row (by omega)]; exact c5) (fun p hp => by
      rw [up_ap]
      by_cases h : p = y
      · rw [if_pos ⟨rfl, h⟩]
        exact hr (y + 1) (by omega)
      · rw [if_neg (fun q => h q.2)]
        exact hr p hp)
    refine ⟨I', ?_, fun p => ?_, e3, fun j hj => ?_, fun k h1 h2 => ?_⟩
    · rw [fn_CH_takeOut_19, if_neg (by rw [c5]; exact nnle (by omega) (by omega)), ld_eq c3 (by omega) (by rw [hK.2.2.2.2.1]), ld_eq c3 (by omega) (by rw [hK.2.2.2.2.1]), gd_eq (ix_eq rfl (by rw [hK.2.2.2.2.1]; show y + 1 < 20; omega) (by omega)), ncl (by omega), ld_eq hra (by omega) (hK.2.2.2.2.2.1 _ ha), sub_1, gd_eq (ix_eq rfl (by rw [hK.2.2.2.2.1]; show y < 20; omega) (by omega)), ncl (by omega), let_eq, na1]
      exact e1
    · rw [e2 p]
      by_cases hp : p = cnt - 1
      · rw [if_pos hp, if_pos hp]
      · rw [if_neg hp, if_neg hp]
        by_cases h1 : y + 2 - 1 ≤ p ∧ p < cnt - 1
        · rw [if_pos h1, if_pos (by omega), up_ap, if_neg (by omega)]
        · rw [if_neg h1, up_ap]
          by_cases h2 : p = y
          · rw [if_pos ⟨rfl, h2⟩, if_pos (by omega), h2]
          · rw [if_neg (fun q => h2 q.2), if_neg (by omega)]
    · rw [e4 j hj, up_row (by omega)]
    · rw [e5 k h1 h2, up_row h2]
theorem rem_loop {cnt : Nat} (hc : cnt ≤ 19) : ∀ (d f x : Nat) (J : Nat → Nat → Int32), 7 * cnt - x = d → d < f → x ≤ 133 → pM J → J 0 12 = nI cnt →
    ∃ J', fn_MD_remove_15 (fw_k LMl) f J 0 (nI x) = some J' ∧ (∀ p, J' 6 p = if x ≤ p ∧ p < 7 * cnt then J 6 (p + 7) else J 6 p) ∧ ∀ k, k ≠ 6 → J' k = J k := by
  intro d
  induction d with
  | zero =>
    intro f x J hd hf hx hM c6
    obtain ⟨g, rfl⟩ : ∃ g, f = g + 1 := ⟨f - 1, by omega⟩
    refine ⟨J, ?_, fun p => ?_, fun _ _ => rfl⟩
    · rw [fn_MD_remove_15, c6, n7, if_pos (nle (by omega) (by omega))]
    · rw [if_neg (by omega)]
  | succ d ih =>
    intro f x J hd hf hx hM c6
    obtain ⟨g, rfl⟩ : ∃ g, f = g + 1 := ⟨f - 1, by omega⟩
    have hM' : pM (fw_up2 J 6 x (J 6 (x + 7))) := by
      unfold pM
      rw [up_row (by decide)]
      exact hM
    obtain ⟨J', e1, e2, e3⟩ := ih g (x + 1) (fw_up2 J 6 x (J 6 (x + 7))) (by omega) (by omega) (by omega) hM' (by rw [up_row (by decide)]; exact c6)
    refine ⟨J', ?_, fun p => ?_, fun k hk => ?_⟩
    · rw [fn_MD_remove_15, c6, n7, if_neg (nnle (by omega) (by omega)), m_fly hM, m_fly hM, na7, gd_eq (g_fly (by omega)), gd_eq (g_fly (by omega)), ncl (by omega), ncl (by omega), let_eq, na1]
      exact e1
    · rw [e2 p]
      by_cases h1 : x + 1 ≤ p ∧ p < 7 * cnt
      · rw [if_pos h1, if_pos (by omega), up_ap, if_neg (by omega)]
      · rw [if_neg h1, up_ap]
        by_cases h2 : p = x
        · rw [if_pos ⟨rfl, h2⟩, if_pos (by omega), h2]
        · rw [if_neg (fun q => h2 q.2), if_neg (by omega)]
    · rw [e3 k hk, up_row hk]
/-- the rows when row i has been taken out -/
def hT (cnt t i : Nat) (h : Nat → Nat) (x : Nat) : Nat := if x = cnt - 1 then t else if i ≤ x ∧ x < cnt - 1 then h (x + 1) else h x
theorem take_ok {N : Nat} {K : Nat → Nat × Nat} {I J : Nat → Nat → Int32} {cnt t i : Nat} {h : Nat → Nat} (hK : kX N K) (hN : N ≤ 5) (hM : pM J) (hC : pC N I J cnt t h) (hi : i < cnt) :
    ∃ I' J', fn_CH_takeOut K I (2 + 3 * N) (nI i) = some (nI (4 + 3 * N + h i), I') ∧ fn_MD_remove (fw_k LMl) J 0 (nI i) = some J' ∧ pC N I' J' (cnt - 1) (h i) (hT cnt t i h) ∧ (∀ k, k ≠ 2 + 3 * N → k ≠ 3 + 3 * N → I' k = I k) ∧ (∀ k, k ≠ 0 → k ≠ 6 → J' k = J k) ∧ ∀ j, j ≠ 12 → J' 0 j = J 0 j := by
  obtain ⟨c1, c2, c3, c4, c5, c6, c7, c8, c9⟩ := hC
  obtain ⟨d1, d2, d3⟩ := c7 i (by omega)
  have u1 : fw_up2 I (2 + 3 * N) 1 (nI (4 + 3 * N + h i)) (2 + 3 * N) 0 = nI (3 + 3 * N) := by rw [up_ap, if_neg (by omega), c3]
  have u2 : fw_up2 I (2 + 3 * N) 1 (nI (4 + 3 * N + h i)) (2 + 3 * N) 1 = nI (4 + 3 * N + h i) := by rw [up_ap, if_pos ⟨rfl, rfl⟩]
  have u3 : fw_up2 I (2 + 3 * N) 1 (nI (4 + 3 * N + h i)) (2 + 3 * N) 2 = nI cnt := by rw [up_ap, if_neg (by omega), c5]
  obtain ⟨I', a1, a2, a3, a4, a5⟩ := take_loop hK hN c1 (by omega) d2 (y2 := nI (4 + 3 * N + t)) (cnt - (i + 1)) 200 (i + 1) (fw_up2 I (2 + 3 * N) 1 (nI (4 + 3 * N + h i))) rfl (by omega) (by omega) (by omega) u1 u2 u3 (fun p hp => ⟨h p, (c7 p hp).2.1, by rw [up_row (by omega)]; exact (c7 p hp).1⟩)
  have hM' : pM (fw_up2 J 0 12 (nI (cnt - 1))) := by
    unfold pM
    simp only [up_ap]
    exact hM
  obtain ⟨J', b1, b2, b3⟩ := rem_loop (cnt := cnt - 1) (by omega) (7 * (cnt - 1) - 7 * i) 200 (7 * i) (fw_up2 J 0 12 (nI (cnt - 1))) rfl (by omega) (by omega) hM' (by rw [up_ap, if_pos ⟨rfl, rfl⟩])
  have e1 : fn_CH_takeOut K I (2 + 3 * N) (nI i) = some (nI (4 + 3 * N + h i), I') := by
    unfold fn_CH_takeOut
    rw [ld_eq c4 (by omega) (hK.2.2.2.2.2.1 _ c2), ld_eq c3 (by omega) (by rw [hK.2.2.2.2.1]), gd_eq (ix_eq rfl (by rw [hK.2.2.2.2.1]; show i < 20; omega) (by omega)), ncl (by omega), ld_eq d1 (by omega) (hK.2.2.2.2.2.1 _ d2), let_eq, d1, c4, na1]
    exact a1
  have e2 : fn_MD_remove (fw_k LMl) J 0 (nI i) = some J' := by
    unfold fn_MD_remove
    rw [let_eq, c6, n7, show nI cnt - 1 = nI (cnt - 1) by
      obtain ⟨c, rfl⟩ : ∃ c, cnt = c + 1 := ⟨cnt - 1, by omega⟩
      exact sub_1 c]
    exact b1
  have rows : ∀ p, p < 20 → I' (3 + 3 * N) p = nI (4 + 3 * N + hT cnt t i h p) := by
    intro p hp
    rw [a2 p]
    unfold hT
    by_cases q1 : p = cnt - 1
    · rw [if_pos q1, if_pos q1]
    · rw [if_neg q1, if_neg q1]
      by_cases q2 : i ≤ p ∧ p < cnt - 1
      · rw [if_pos (by omega), if_pos q2, up_row (by omega)]
        exact (c7 (p + 1) (by omega)).1
      · rw [if_neg (by omega), if_neg q2, up_row (by omega)]
        exact (c7 p hp).1
  refine ⟨I', J', e1, e2, ⟨by omega, d2, ?_, ?_, a3, ?_, fun p hp => ⟨rows p hp, ?_, ?_⟩, fun x y hx hy hxy => ?_, fun x hx => ?_⟩, fun k h1 h2 => ?_, fun k h1 h2 => ?_, fun j hj => ?_⟩
  · rw [a4 0 (by decide), u1]
  · rw [a4 1 (by decide), u2]
  · rw [b3 0 (by decide), up_ap, if_pos ⟨rfl, rfl⟩]
  · unfold hT
    split
    · exact c2
    · split
      · exact (c7 (p + 1) (by omega)).2.1
      · exact (c7 p hp).2.1
  · unfold hT
    split
    · exact fun q => d3 q.symm
    · split
      · exact fun q => absurd (c8 (p + 1) i (by omega) (by omega) q) (by omega)
      · exact fun q => absurd (c8 p i hp (by omega) q) (by omega)
  · unfold hT at hxy
    have key : ∀ z, z < 20 → h z ≠ t := fun z hz => (c7 z hz).2.2
    split at hxy
    · split at hxy
      · omega
      · split at hxy
        · exact absurd hxy.symm (key (y + 1) (by omega))
        · exact absurd hxy.symm (key y hy)
    · split at hxy
      · split at hxy
        · exact absurd hxy (key (x + 1) (by omega))
        · split at hxy
          · have := c8 (x + 1) (y + 1) (by omega) (by omega) hxy
            omega
          · have := c8 (x + 1) y (by omega) hy hxy
            omega
      · split at hxy
        · exact absurd hxy (key x hx)
        · split at hxy
          · have := c8 x (y + 1) hx (by omega) hxy
            omega
          · exact c8 x y hx hy hxy
  · have hx2 : x ≠ cnt - 1 := by omega
    have r6 : ∀ j, J' 6 (7 * x + j) = if 7 * i ≤ 7 * x + j ∧ 7 * x + j < 7 * (cnt - 1) then J 6 (7 * x + j + 7) else J 6 (7 * x + j) := fun j => by
      rw [b2]
      rw [show fw_up2 J 0 12 (nI (cnt - 1)) 6 = J 6 from up_row (by decide)]
    have hrow : I' (4 + 3 * N + hT cnt t i h x) = I (4 + 3 * N + hT cnt t i h x) := by
      rw [a5 _ (by omega) (by omega), up_row (by omega)]
    rw [hrow]
    unfold hT
    rw [if_neg hx2]
    by_cases hxi : i ≤ x
    · rw [if_pos ⟨hxi, by omega⟩]
      obtain ⟨q1, q2⟩ := c9 (x + 1) (by omega)
      have e3 : ∀ j, j < 7 → J' 6 (7 * x + j) = J 6 (7 * (x + 1) + j) := fun j hj => by
        rw [r6, if_pos (by omega)]
        congr 1
        omega
      exact ⟨fun j hj => by rw [e3 j hj]; exact q1 j hj, okm_of e3 q2⟩
    · rw [if_neg (by omega)]
      obtain ⟨q1, q2⟩ := c9 x (by omega)
      have e3 : ∀ j, j < 7 → J' 6 (7 * x + j) = J 6 (7 * x + j) := fun j hj => by
        rw [r6, if_neg (by omega)]
      exact ⟨fun j hj => by rw [e3 j hj]; exact q1 j hj, okm_of e3 q2⟩
  · rw [a5 k h1 h2, up_row h1]
  · rw [b3 k h2, up_row h1]
  · rw [b3 0 (by decide), up_ap, if_neg (fun q => hj q.2)]
