/-! the recoverers and the ledger -/
theorem up_nj {I : Nat → Nat → Int32} {k j j' : Nat} {x : Int32} (h : j' ≠ j) : fw_up2 I k j x k j' = I k j' := by rw [up_ap, if_neg (fun q => h q.2)]
theorem up_at {I : Nat → Nat → Int32} {k j : Nat} {x : Int32} : fw_up2 I k j x k j = x := by rw [up_ap, if_pos ⟨rfl, rfl⟩]
def pR1 (N r : Nat) (I J : Nat → Nat → Int32) : Prop := I (28 + 3 * N) r = nI (29 + 3 * N + r) ∧ I (29 + 3 * N + r) 0 = nI (r + 1) ∧ I (29 + 3 * N + r) 1 = J 9 (r + 1) ∧ (∃ m, m ≤ 4 ∧ J 9 (r + 1) = nI m) ∧ I (29 + 3 * N + r) 2 = J 10 (r + 1) ∧ I (29 + 3 * N + r) 3 = J 11 (r + 1) ∧ (∃ e, e < 20 ∧ J 11 (r + 1) = nI e) ∧ (∃ b, b < 2 ^ N ∧ I (29 + 3 * N + r) 4 = nI b ∧ ∀ s, s < 5 → J 14 (5 * (r + 1) + s) = pb b s) ∧ I (29 + 3 * N + r) 5 = J 12 (r + 1) ∧ mk (J 12 (r + 1)) ∧ I (29 + 3 * N + r) 6 = J 13 (r + 1)
theorem R0.rec {N W Q r : Nat} {I I' J J' : Nat → Nat → Int32} (h : R0 N W Q I J) (hI : ∀ k, k ≠ 29 + 3 * N + r → I' k = I k) (hJ : ∀ k, k < 9 ∨ 14 < k → J' k = J k) (hJ1 : ∀ k p, 9 ≤ k → k ≤ 13 → p ≠ r + 1 → J' k p = J k p) (hJ2 : ∀ p, p < 5 * (r + 1) ∨ 5 * (r + 1) + 5 ≤ p → J' 14 p = J 14 p) (hb : pR1 N r I' J') : R0 N W Q I' J' ∧ frC N I I' J J' := by
  obtain ⟨h1, h2, h3, h4, h5⟩ := h
  refine ⟨⟨h1.keep (fun j _ => by rw [hJ 0 (by omega)]), h2.keep (hI 0 (by omega)) (fun j _ => by rw [hJ 0 (by omega)]), h3.keep (fun k _ _ => hI k (by omega)) (fun k _ _ => hJ k (by omega)), h4.keep (fun k _ _ => hI k (by omega)) (hJ 7 (by omega)) (hJ 8 (by omega)) (fun j _ _ => by rw [hJ 0 (by omega)]), fun r' hr' => ?_⟩, fun k _ _ => hI k (by omega), hJ 6 (by omega), by rw [hJ 0 (by omega)]⟩
  by_cases hrr : r' = r
  · subst hrr
    exact hb
  · obtain ⟨p1, p2, p3, p4, p5, p6, p7, ⟨b, p8, p9, p10⟩, p11, p12, p13⟩ := h5 r' hr'
    rw [hI (28 + 3 * N) (by omega), hI (29 + 3 * N + r') (by omega), hJ1 9 _ (by omega) (by omega) (by omega), hJ1 10 _ (by omega) (by omega) (by omega), hJ1 11 _ (by omega) (by omega) (by omega), hJ1 12 _ (by omega) (by omega) (by omega), hJ1 13 _ (by omega) (by omega) (by omega)]
    exact ⟨p1, p2, p3, p4, p5, p6, p7, ⟨b, p8, p9, fun s hs => by rw [hJ2 _ (by omega)]; exact p10 s hs⟩, p11, p12, p13⟩
theorem R0.mode {N W Q r : Nat} {I J : Nat → Nat → Int32} (h : R0 N W Q I J) (hr : r < 2) {m : Nat} (hm : m ≤ 4) : R0 N W Q (fw_up2 I (29 + 3 * N + r) 1 (nI m)) (fw_up2 J 9 (r + 1) (nI m)) ∧ frC N I (fw_up2 I (29 + 3 * N + r) 1 (nI m)) J (fw_up2 J 9 (r + 1) (nI m)) := by
  obtain ⟨p1, p2, p3, p4, p5, p6, p7, ⟨b, p8, p9, p10⟩, p11, p12, p13⟩ := h.2.2.2.2 r hr
  refine h.rec (r := r) (fun k hk => up_row hk) (fun k hk => up_row (by omega)) (fun k p _ _ hp => by rw [up_ap, if_neg (fun q => hp q.2)]) (fun p _ => by rw [up_ap, if_neg (by omega)]) ⟨?_, ?_, ?_, ?_, ?_, ?_, ?_, ⟨b, p8, ?_, fun s hs => ?_⟩, ?_, ?_, ?_⟩
  · rw [up_row (by omega)]; exact p1
  · rw [up_ap, if_neg (by omega)]; exact p2
  · rw [up_ap, if_pos ⟨rfl, rfl⟩, up_ap, if_pos ⟨rfl, rfl⟩]
  · rw [up_ap, if_pos ⟨rfl, rfl⟩]; exact ⟨m, hm, rfl⟩
  · rw [up_ap, if_neg (by omega), up_ap, if_neg (by omega)]; exact p5
  · rw [up_ap, if_neg (by omega), up_ap, if_neg (by omega)]; exact p6
  · rw [up_ap, if_neg (by omega)]; exact p7
  · rw [up_ap, if_neg (by omega)]; exact p9
  · rw [up_row (k' := 14) (by omega)]; exact p10 s hs
  · rw [up_ap, if_neg (by omega), up_ap, if_neg (by omega)]; exact p11
  · rw [up_ap, if_neg (by omega)]; exact p12
  · rw [up_ap, if_neg (by omega), up_ap, if_neg (by omega)]; exact p13
theorem R0.term {N W Q r : Nat} {I J : Nat → Nat → Int32} (h : R0 N W Q I J) (hr : r < 2) {x : Int32} : R0 N W Q (fw_up2 I (29 + 3 * N + r) 2 x) (fw_up2 J 10 (r + 1) x) ∧ frC N I (fw_up2 I (29 + 3 * N + r) 2 x) J (fw_up2 J 10 (r + 1) x) := by
  obtain ⟨p1, p2, p3, p4, p5, p6, p7, ⟨b, p8, p9, p10⟩, p11, p12, p13⟩ := h.2.2.2.2 r hr
  refine h.rec (r := r) (fun k hk => up_row hk) (fun k hk => up_row (by omega)) (fun k p _ _ hp => by rw [up_ap, if_neg (fun q => hp q.2)]) (fun p _ => by rw [up_ap, if_neg (by omega)]) ⟨?_, ?_, ?_, ?_, ?_, ?_, ?_, ⟨b, p8, ?_, fun s hs => ?_⟩, ?_, ?_, ?_⟩
  · rw [up_row (by omega)]; exact p1
  · rw [up_ap, if_neg (by omega)]; exact p2
  · rw [up_ap, if_neg (by omega), up_ap, if_neg (by omega)]; exact p3
  · rw [up_ap, if_neg (by omega)]; exact p4
  · rw [up_ap, if_pos ⟨rfl, rfl⟩, up_ap, if_pos ⟨rfl, rfl⟩]
  · rw [up_ap, if_neg (by omega), up_ap, if_neg (by omega)]; exact p6
  · rw [up_ap, if_neg (by omega)]; exact p7
  · rw [up_ap, if_neg (by omega)]; exact p9
  · rw [up_row (k' := 14) (by omega)]; exact p10 s hs
  · rw [up_ap, if_neg (by omega), up_ap, if_neg (by omega)]; exact p11
  · rw [up_ap, if_neg (by omega)]; exact p12
  · rw [up_ap, if_neg (by omega), up_ap, if_neg (by omega)]; exact p13
theorem R0.at_ {N W Q r : Nat} {I J : Nat → Nat → Int32} (h : R0 N W Q I J) (hr : r < 2) {e : Nat} (he : e < 20) : R0 N W Q (fw_up2 I (29 + 3 * N + r) 3 (nI e)) (fw_up2 J 11 (r + 1) (nI e)) ∧ frC N I (fw_up2 I (29 + 3 * N + r) 3 (nI e)) J (fw_up2 J 11 (r + 1) (nI e)) := by
  obtain ⟨p1, p2, p3, p4, p5, p6, p7, ⟨b, p8, p9, p10⟩, p11, p12, p13⟩ := h.2.2.2.2 r hr
  refine h.rec (r := r) (fun k hk => up_row hk) (fun k hk => up_row (by omega)) (fun k p _ _ hp => by rw [up_ap, if_neg (fun q => hp q.2)]) (fun p _ => by rw [up_ap, if_neg (by omega)]) ⟨?_, ?_, ?_, ?_, ?_, ?_, ?_, ⟨b, p8, ?_, fun s hs => ?_⟩, ?_, ?_, ?_⟩
  · rw [up_row (by omega)]; exact p1
  · rw [up_ap, if_neg (by omega)]; exact p2
  · rw [up_ap, if_neg (by omega), up_ap, if_neg (by omega)]; exact p3
  · rw [up_ap, if_neg (by omega)]; exact p4
  · rw [up_ap, if_neg (by omega), up_ap, if_neg (by omega)]; exact p5
  · rw [up_ap, if_pos ⟨rfl, rfl⟩, up_ap, if_pos ⟨rfl, rfl⟩]
  · rw [up_ap, if_pos ⟨rfl, rfl⟩]; exact ⟨e, he, rfl⟩
  · rw [up_ap, if_neg (by omega)]; exact p9
  · rw [up_row (k' := 14) (by omega)]; exact p10 s hs
  · rw [up_ap, if_neg (by omega), up_ap, if_neg (by omega)]; exact p11
  · rw [up_ap, if_neg (by omega)]; exact p12
  · rw [up_ap, if_neg (by omega), up_ap, if_neg (by omega)]; exact p13
theorem R0.high {N W Q r : Nat} {I J : Nat → Nat → Int32} (h : R0 N W Q I J) (hr : r < 2) {x : Int32} (hx : mk x) : R0 N W Q (fw_up2 I (29 + 3 * N + r) 5 x) (fw_up2 J 12 (r + 1) x) ∧ frC N I (fw_up2 I (29 + 3 * N + r) 5 x) J (fw_up2 J 12 (r + 1) x) := by
  obtain ⟨p1, p2, p3, p4, p5, p6, p7, ⟨b, p8, p9, p10⟩, p11, p12, p13⟩ := h.2.2.2.2 r hr
  refine h.rec (r := r) (fun k hk => up_row hk) (fun k hk => up_row (by omega)) (fun k p _ _ hp => by rw [up_ap, if_neg (fun q => hp q.2)]) (fun p _ => by rw [up_ap, if_neg (by omega)]) ⟨?_, ?_, ?_, ?_, ?_, ?_, ?_, ⟨b, p8, ?_, fun s hs => ?_⟩, ?_, ?_, ?_⟩
  · rw [up_row (by omega)]; exact p1
  · rw [up_ap, if_neg (by omega)]; exact p2
  · rw [up_ap, if_neg (by omega), up_ap, if_neg (by omega)]; exact p3
  · rw [up_ap, if_neg (by omega)]; exact p4
  · rw [up_ap, if_neg (by omega), up_ap, if_neg (by omega)]; exact p5
  · rw [up_ap, if_neg (by omega), up_ap, if_neg (by omega)]; exact p6
  · rw [up_ap, if_neg (by omega)]; exact p7
  · rw [up_ap, if_neg (by omega)]; exact p9
  · rw [up_row (k' := 14) (by omega)]; exact p10 s hs
  · rw [up_ap, if_pos ⟨rfl, rfl⟩, up_ap, if_pos ⟨rfl, rfl⟩]
  · rw [up_ap, if_pos ⟨rfl, rfl⟩]; exact hx
  · rw [up_ap, if_neg (by omega), up_ap, if_neg (by omega)]; exact p13
theorem R0.back {N W Q r : Nat} {I J : Nat → Nat → Int32} (h : R0 N W Q I J) (hr : r < 2) {x : Int32} : R0 N W Q (fw_up2 I (29 + 3 * N + r) 6 x) (fw_up2 J 13 (r + 1) x) ∧ frC N I (fw_up2 I (29 + 3 * N + r) 6 x) J (fw_up2 J 13 (r + 1) x) := by
  obtain ⟨p1, p2, p3, p4, p5, p6, p7, ⟨b, p8, p9, p10⟩, p11, p12, p13⟩ := h.2.2.2.2 r hr
  refine h.rec (r := r) (fun k hk => up_row hk) (fun k hk => up_row (by omega)) (fun k p _ _ hp => by rw [up_ap, if_neg (fun q => hp q.2)]) (fun p _ => by rw [up_ap, if_neg (by omega)]) ⟨?_, ?_, ?_, ?_, ?_, ?_, ?_, ⟨b, p8, ?_, fun s hs => ?_⟩, ?_, ?_, ?_⟩
  · rw [up_row (by omega)]; exact p1
  · rw [up_ap, if_neg (by omega)]; exact p2
  · rw [up_ap, if_neg (by omega), up_ap, if_neg (by omega)]; exact p3
  · rw [up_ap, if_neg (by omega)]; exact p4
  · rw [up_ap, if_neg (by omega), up_ap, if_neg (by omega)]; exact p5
  · rw [up_ap, if_neg (by omega), up_ap, if_neg (by omega)]; exact p6
  · rw [up_ap, if_neg (by omega)]; exact p7
  · rw [up_ap, if_neg (by omega)]; exact p9
  · rw [up_row (k' := 14) (by omega)]; exact p10 s hs
  · rw [up_ap, if_neg (by omega), up_ap, if_neg (by omega)]; exact p11
  · rw [up_ap, if_neg (by omega)]; exact p12
  · rw [up_ap, if_pos ⟨rfl, rfl⟩, up_ap, if_pos ⟨rfl, rfl⟩]
theorem R0.bits {N W Q r b : Nat} {I J J' : Nat → Nat → Int32} (h : R0 N W Q I J) (hr : r < 2) (hb : b < 2 ^ N) (hJ : ∀ k, k ≠ 14 → J' k = J k) (hJ2 : ∀ p, p < 5 * (r + 1) ∨ 5 * (r + 1) + 5 ≤ p → J' 14 p = J 14 p) (hB : ∀ s, s < 5 → J' 14 (5 * (r + 1) + s) = pb b s) : R0 N W Q (fw_up2 I (29 + 3 * N + r) 4 (nI b)) J' ∧ frC N I (fw_up2 I (29 + 3 * N + r) 4 (nI b)) J J' := by
  obtain ⟨p1, p2, p3, p4, p5, p6, p7, -, p11, p12, p13⟩ := h.2.2.2.2 r hr
  refine h.rec (r := r) (fun k hk => up_row hk) (fun k hk => hJ k (by omega)) (fun k p _ _ hp => by rw [hJ k (by omega)]) hJ2 ⟨?_, ?_, ?_, ?_, ?_, ?_, ?_, ⟨b, hb, ?_, hB⟩, ?_, ?_, ?_⟩
  · rw [up_row (by omega)]; exact p1
  · rw [up_ap, if_neg (by omega)]; exact p2
  · rw [up_ap, if_neg (by omega), hJ 9 (by omega)]; exact p3
  · rw [hJ 9 (by omega)]; exact p4
  · rw [up_ap, if_neg (by omega), hJ 10 (by omega)]; exact p5
  · rw [up_ap, if_neg (by omega), hJ 11 (by omega)]; exact p6
  · rw [hJ 11 (by omega)]; exact p7
  · rw [up_ap, if_pos ⟨rfl, rfl⟩]
  · rw [up_ap, if_neg (by omega), hJ 12 (by omega)]; exact p11
  · rw [hJ 12 (by omega)]; exact p12
  · rw [up_ap, if_neg (by omega), hJ 13 (by omega)]; exact p13
theorem R0.note {N W Q r b s : Nat} (hz : sz N W Q) {I J : Nat → Nat → Int32} (h : R0 N W Q I J) (hr : r < 2) (hs : s < N) (hb : b < 2 ^ N) (hB : ∀ s, s < 5 → J 14 (5 * (r + 1) + s) = pb b s) : (R0 N W Q (fw_up2 I (29 + 3 * N + r) 4 (nI (b ||| 2 ^ s))) (fw_up2 J 14 (5 * (r + 1) + s) 1) ∧ frC N I (fw_up2 I (29 + 3 * N + r) 4 (nI (b ||| 2 ^ s))) J (fw_up2 J 14 (5 * (r + 1) + s) 1)) ∧ b ||| 2 ^ s < 2 ^ N ∧ ∀ s', s' < 5 → fw_up2 J 14 (5 * (r + 1) + s) 1 14 (5 * (r + 1) + s') = pb (b ||| 2 ^ s) s' := by
  have z2 := hz.2.1
  have hb5 := b32 hz hb
  have hbn := bit_lt N (by omega) b hb s hs
  have hB' : ∀ s', s' < 5 → fw_up2 J 14 (5 * (r + 1) + s) 1 14 (5 * (r + 1) + s') = pb (b ||| 2 ^ s) s' := by
    intro s' hs'
    rw [up_ap]
    unfold pb
    rw [bit_t b hb5 s (by omega) s' hs']
    by_cases hss : s' = s
    · subst hss
      rw [if_pos ⟨rfl, rfl⟩, decide_eq_true rfl]
      rfl
    · rw [if_neg (by omega), decide_eq_false hss, Bool.false_or]
      exact hB s' hs'
  exact ⟨h.bits hr hbn (fun k hk => up_row hk) (fun p hp => by rw [up_ap, if_neg (by omega)]) hB', hbn, hB'⟩
theorem forget_l {r : Nat} (hr : r < 2) : ∀ (d f x : Nat) (J : Nat → Nat → Int32), 5 - x = d → d < f → x ≤ 5 → pM J → ∃ J', fn_MD_forget_2 (fw_k LMl) f J 0 (nI (r + 1)) (nI x) = some J' ∧ (∀ k, k ≠ 14 → J' k = J k) ∧ (∀ p, p < 5 * (r + 1) + x ∨ 5 * (r + 1) + 5 ≤ p → J' 14 p = J 14 p) ∧ ∀ p, 5 * (r + 1) + x ≤ p → p < 5 * (r + 1) + 5 → J' 14 p = 0 := by
  intro d
  induction d with
  | zero =>
    intro f x J hd hf hx hM
    obtain ⟨g, rfl⟩ : ∃ g, f = g + 1 := ⟨f - 1, by omega⟩
    refine ⟨J, ?_, fun _ _ => rfl, fun _ _ => rfl, fun p h1 h2 => absurd h2 (by omega)⟩
    rw [fn_MD_forget_2, if_pos (show (5 : Int32) ≤ nI x from nle (a := 5) (by omega) (by omega))]
  | succ d ih =>
    intro f x J hd hf hx hM
    obtain ⟨g, rfl⟩ : ∃ g, f = g + 1 := ⟨f - 1, by omega⟩
    obtain ⟨J', a1, a2, a3, a4⟩ := ih g (x + 1) (fw_up2 J 14 (5 * (r + 1) + x) 0) (by omega) (by omega) (by omega) (hM.keep (fun j _ => by rw [up_row (by omega)]))
    refine ⟨J', ?_, fun k hk => by rw [a2 k hk, up_row hk], fun p hp => by rw [a3 p (by omega), up_ap, if_neg (by omega)], fun p h1 h2 => ?_⟩
    · rw [fn_MD_forget_2, if_neg (show ¬ (5 : Int32) ≤ nI x from nnle (a := 5) (by omega) (by omega)), m_ans hM, n5, nI_add, gd_eq (g_ans (by omega)), ncl (by omega), let_eq, na1]
      exact a1
    · by_cases hp : p = 5 * (r + 1) + x
      · rw [a3 p (by omega), up_ap, if_pos ⟨rfl, hp⟩]
      · exact a4 p (by omega) h2
theorem forget_ok {N W Q r : Nat} {I J : Nat → Nat → Int32} (h : R0 N W Q I J) (hr : r < 2) : ∃ J', fn_MD_forget (fw_k LMl) J 0 (nI (r + 1)) = some J' ∧ (R0 N W Q (fw_up2 I (29 + 3 * N + r) 4 0) J' ∧ frC N I (fw_up2 I (29 + 3 * N + r) 4 0) J J') ∧ ∀ k, k ≠ 14 → J' k = J k := by
  obtain ⟨J', a1, a2, a3, a4⟩ := forget_l hr 5 200 0 J rfl (by omega) (by omega) h.1
  refine ⟨J', a1, h.bits (b := 0) hr (Nat.pow_pos (by decide)) a2 a3 (fun s hs => ?_), a2⟩
  rw [a4 _ (by omega) (by omega)]
  unfold pb
  rw [Nat.zero_testBit]
  rfl
theorem up_comm {I : Nat → Nat → Int32} {k j k' j' : Nat} {x y : Int32} (h : k ≠ k' ∨ j ≠ j') : fw_up2 (fw_up2 I k j x) k' j' y = fw_up2 (fw_up2 I k' j' y) k j x := by
  funext a b
  rw [up_ap, up_ap, up_ap, up_ap]
  by_cases h1 : a = k' ∧ b = j'
  · rw [if_pos h1, if_neg (by omega), if_pos h1]
  · rw [if_neg h1, if_neg h1]
theorem R0.led {N W Q : Nat} {I I' J J' : Nat → Nat → Int32} (h : R0 N W Q I J) (hI : ∀ k, k ≠ 0 → I' k = I k) (hJ : ∀ k, k ≠ 0 → J' k = J k) (hJ0 : ∀ j, j < 9 ∨ 11 < j → J' 0 j = J 0 j) (hF : pF N W Q I' J') : R0 N W Q I' J' ∧ frC N I I' J J' := by
  obtain ⟨h1, h2, h3, h4, h5⟩ := h
  exact ⟨⟨h1.keep (fun j _ => hJ0 j (by omega)), hF, h3.keep (fun k _ _ => hI k (by omega)) (fun k _ _ => hJ k (by omega)), h4.keep (fun k _ _ => hI k (by omega)) (hJ 7 (by omega)) (hJ 8 (by omega)) (fun j _ _ => hJ0 j (by omega)), h5.keep (fun k _ => hI k (by omega)) (fun k _ _ => hJ k (by omega))⟩, fun k _ _ => hI k (by omega), hJ 6 (by omega), hJ0 12 (by omega)⟩
theorem R0.l7 {N W Q : Nat} {I J : Nat → Nat → Int32} (h : R0 N W Q I J) {x : Int32} : R0 N W Q (fw_up2 I 0 7 x) (fw_up2 J 0 9 x) ∧ frC N I (fw_up2 I 0 7 x) J (fw_up2 J 0 9 x) := by
  obtain ⟨f1, f2, f3, f4, f5, f6, f7, g1, g2, g3, e1, e2, e3, e4⟩ := h.2.1
  refine h.led (fun k hk => up_row hk) (fun k hk => up_row hk) (fun j hj => by rw [up_ap, if_neg (by omega)]) ⟨?_, ?_, ?_, ?_, ?_, ?_, ?_, ?_, ?_, ?_, ?_, ?_, ?_, ?_⟩
  · rw [up_ap, if_neg (by omega)]; exact f1
  · rw [up_ap, if_neg (by omega)]; exact f2
  · rw [up_ap, if_neg (by omega)]; exact f3
  · rw [up_ap, if_neg (by omega)]; exact f4
  · rw [up_ap, if_neg (by omega)]; exact f5
  · rw [up_ap, if_neg (by omega)]; exact f6
  · rw [up_ap, if_neg (by omega)]; exact f7
  · rw [up_ap, if_neg (by omega)]; exact g1
  · rw [up_ap, if_neg (by omega)]; exact g2
  · rw [up_ap, if_neg (by omega)]; exact g3
  · rw [up_ap, if_pos ⟨rfl, rfl⟩, up_ap, if_pos ⟨rfl, rfl⟩]
  · rw [up_ap, if_neg (by omega), up_ap, if_neg (by omega)]; exact e2
  · rw [up_ap, if_neg (by omega), up_ap, if_neg (by omega)]; exact e3
  · rw [up_ap, if_neg (by omega)]; exact e4
theorem R0.l8 {N W Q : Nat} {I J : Nat → Nat → Int32} (h : R0 N W Q I J) {x : Int32} : R0 N W Q (fw_up2 I 0 8 x) (fw_up2 J 0 10 x) ∧ frC N I (fw_up2 I 0 8 x) J (fw_up2 J 0 10 x) := by
  obtain ⟨f1, f2, f3, f4, f5, f6, f7, g1, g2, g3, e1, e2, e3, e4⟩ := h.2.1
  refine h.led (fun k hk => up_row hk) (fun k hk => up_row hk) (fun j hj => by rw [up_ap, if_neg (by omega)]) ⟨?_, ?_, ?_, ?_, ?_, ?_, ?_, ?_, ?_, ?_, ?_, ?_, ?_, ?_⟩
  · rw [up_ap, if_neg (by omega)]; exact f1
  · rw [up_ap, if_neg (by omega)]; exact f2
  · rw [up_ap, if_neg (by omega)]; exact f3
  · rw [up_ap, if_neg (by omega)]; exact f4
  · rw [up_ap, if_neg (by omega)]; exact f5
  · rw [up_ap, if_neg (by omega)]; exact f6
  · rw [up_ap, if_neg (by omega)]; exact f7
  · rw [up_ap, if_neg (by omega)]; exact g1
  · rw [up_ap, if_neg (by omega)]; exact g2
  · rw [up_ap, if_neg (by omega)]; exact g3
  · rw [up_ap, if_neg (by omega), up_ap, if_neg (by omega)]; exact e1
  · rw [up_ap, if_pos ⟨rfl, rfl⟩, up_ap, if_pos ⟨rfl, rfl⟩]
  · rw [up_ap, if_neg (by omega), up_ap, if_neg (by omega)]; exact e3
  · rw [up_ap, if_neg (by omega)]; exact e4
theorem R0.l9 {N W Q : Nat} {I J : Nat → Nat → Int32} (h : R0 N W Q I J) {x : Int32} (hx : mk x) : R0 N W Q (fw_up2 I 0 9 x) (fw_up2 J 0 11 x) ∧ frC N I (fw_up2 I 0 9 x) J (fw_up2 J 0 11 x) := by
  obtain ⟨f1, f2, f3, f4, f5, f6, f7, g1, g2, g3, e1, e2, e3, e4⟩ := h.2.1
  refine h.led (fun k hk => up_row hk) (fun k hk => up_row hk) (fun j hj => by rw [up_ap, if_neg (by omega)]) ⟨?_, ?_, ?_, ?_, ?_, ?_, ?_, ?_, ?_, ?_, ?_, ?_, ?_, ?_⟩
  · rw [up_ap, if_neg (by omega)]; exact f1
  · rw [up_ap, if_neg (by omega)]; exact f2
  · rw [up_ap, if_neg (by omega)]; exact f3
  · rw [up_ap, if_neg (by omega)]; exact f4
  · rw [up_ap, if_neg (by omega)]; exact f5
  · rw [up_ap, if_neg (by omega)]; exact f6
  · rw [up_ap, if_neg (by omega)]; exact f7
  · rw [up_ap, if_neg (by omega)]; exact g1
  · rw [up_ap, if_neg (by omega)]; exact g2
  · rw [up_ap, if_neg (by omega)]; exact g3
  · rw [up_ap, if_neg (by omega), up_ap, if_neg (by omega)]; exact e1
  · rw [up_ap, if_neg (by omega), up_ap, if_neg (by omega)]; exact e2
  · rw [up_ap, if_pos ⟨rfl, rfl⟩, up_ap, if_pos ⟨rfl, rfl⟩]
  · rw [up_ap, if_pos ⟨rfl, rfl⟩]; exact hx
theorem shut_ok {N W Q : Nat} {K : Nat → Nat × Nat} {I J : Nat → Nat → Int32} (h : R0 N W Q I J) {x : Int32} (hx : mk x) : ∃ I' J', fn_FL_shutLedger K I 0 x = some I' ∧ fw_up2 (fw_up2 (fw_up2 J 0 9 2) 0 11 x) 0 10 (J 0 10 + 1) = J' ∧ (R0 N W Q I' J' ∧ frC N I I' J J') ∧ (∀ k, k ≠ 0 → I' k = I k) ∧ (∀ j, j < 7 → I' 0 j = I 0 j) ∧ I' 0 7 = 2 ∧ J' 0 9 = 2 := by
  obtain ⟨a1, b1⟩ := h.l7 (x := 2)
  obtain ⟨a2, b2⟩ := a1.l9 hx
  obtain ⟨a3, b3⟩ := a2.l8 (x := J 0 10 + 1)
  refine ⟨_, _, ?_, rfl, ⟨a3, (b1.tr b2).tr b3⟩, fun k hk => by rw [up_row hk, up_row hk, up_row hk], fun j hj => by rw [up_ap, if_neg (by omega), up_ap, if_neg (by omega), up_ap, if_neg (by omega)], by rw [up_ap, if_neg (by omega), up_ap, if_neg (by omega), up_ap, if_pos ⟨rfl, rfl⟩], by rw [up_ap, if_neg (by omega), up_ap, if_neg (by omega), up_ap, if_pos ⟨rfl, rfl⟩]⟩
  unfold fn_FL_shutLedger
  rw [let_eq, let_eq, let_eq, up_ap _ 0 9, if_neg (by omega), up_ap _ 0 7, if_neg (by omega), h.2.1.2.2.2.2.2.2.2.2.2.2.2.1]
theorem fin_ok {N W Q r : Nat} (hr : r < 2) {K : Nat → Nat × Nat} {I J : Nat → Nat → Int32} (h : R0 N W Q I J) : ∃ I' J', fn_FL_finish_24 K I 0 (29 + 3 * N + r) = some I' ∧ fn_MD_finish_41 (fw_k LMl) J 0 (nI (r + 1)) = some J' ∧ R0 N W Q I' J' ∧ frC N I I' J J' := by
  have e1 : I 0 7 = J 0 9 := h.2.1.2.2.2.2.2.2.2.2.2.2.1
  by_cases h2 : J 0 9 = 2
  · have q := h.mode hr (m := 4) (by omega)
    refine ⟨_, _, ?_, ?_, q⟩
    · unfold fn_FL_finish_24
      rw [e1, if_pos h2]
      rfl
    · unfold fn_MD_finish_41
      rw [m_mode h.1, if_pos h2, gd_eq (g_mode (by omega)), ncl (by omega)]
      rfl
  · have q := h.mode hr (m := 0) (by omega)
    refine ⟨_, _, ?_, ?_, q⟩
    · unfold fn_FL_finish_24
      rw [e1, if_neg h2]
      rfl
    · unfold fn_MD_finish_41
      rw [m_mode h.1, if_neg h2, gd_eq (g_mode (by omega)), ncl (by omega)]
      rfl
theorem finish_ok {N W Q r : Nat} (hr : r < 2) {K : Nat → Nat × Nat} {I J : Nat → Nat → Int32} (h : R0 N W Q I J) {x : Int32} (hx : mk x) : ∃ I' J', fn_FL_finish K I 0 (29 + 3 * N + r) x = some I' ∧ fn_MD_finish (fw_k LMl) J 0 (nI (r + 1)) x = some J' ∧ R0 N W Q I' J' ∧ frC N I I' J J' := by
  have e1 : I 0 7 = J 0 9 := h.2.1.2.2.2.2.2.2.2.2.2.2.1
  have e2 : I 0 8 = J 0 10 := h.2.1.2.2.2.2.2.2.2.2.2.2.2.1
  have e3 : I (29 + 3 * N + r) 2 = J 10 (r + 1) := (h.2.2.2.2 r hr).2.2.2.2.1
  obtain ⟨I2, J2, c1, c2, c3, c4⟩ := fin_ok hr (K := K) h
  by_cases h1 : J 0 9 = 1
  · by_cases h2 : J 0 10 = J 10 (r + 1)
    · obtain ⟨I1, J1, a1, a2, a3, -⟩ := shut_ok (K := K) h hx
      obtain ⟨I', J', d1, d2, d3, d4⟩ := fin_ok hr (K := K) a3.1
      refine ⟨I', J', ?_, ?_, d3, a3.2.tr d4⟩
      · unfold fn_FL_finish
        rw [e1, if_pos h1, e2, e3, if_pos h2, bv_eq a1]
        exact d1
      · unfold fn_MD_finish
        rw [if_pos h1, m_term h.1, gd_eq (g_term (by omega)), ncl (by omega), if_pos h2, let_eq, let_eq, let_eq, up_ap _ 0 11, if_neg (by omega), up_ap _ 0 9, if_neg (by omega), a2]
        exact d2
    · refine ⟨I2, J2, ?_, ?_, c3, c4⟩
      · unfold fn_FL_finish
        rw [e1, if_pos h1, e2, e3, if_neg h2]
        exact c1
      · unfold fn_MD_finish
        rw [if_pos h1, m_term h.1, gd_eq (g_term (by omega)), ncl (by omega), if_neg h2]
        exact c2
  · refine ⟨I2, J2, ?_, ?_, c3, c4⟩
    · unfold fn_FL_finish
      rw [e1, if_neg h1]
      exact c1
    · unfold fn_MD_finish
      rw [if_neg h1]
      exact c2
theorem readOn_ok {N W Q : Nat} (hz : sz N W Q) {K : Nat → Nat × Nat} (hK : kX N K) {t r cnt e : Nat} (hr : r < 2) {h : Nat → Nat} {I J : Nat → Nat → Int32} (hR : R0 N W Q I J) (hC : pC N I J cnt t h) (he : e ≤ 20) :
    ∃ I' J' cnt', fn_FL_readOn K I 0 (29 + 3 * N + r) (nI e) = some I' ∧ fn_MD_readOn (fw_k LMl) J 0 (nI (r + 1)) (nI e) = some J' ∧ R0 N W Q I' J' ∧ pC N I' J' cnt' t h ∧ I' (4 + 3 * N + t) = I (4 + 3 * N + t) := by
  have ht := hC.2.1
  by_cases h20 : e = 20
  · subst h20
    obtain ⟨I', J', a1, a2, a3, a4⟩ := finish_ok hr (K := K) hR (x := nI 20 - 1) ⟨20, by omega, rfl⟩
    refine ⟨I', J', cnt, ?_, ?_, a3, hC.fr a4, a4.msg ht⟩
    · unfold fn_FL_readOn
      rw [if_neg (show ¬ nI 20 < (20 : Int32) by decide)]
      exact bv_eq a1
    · unfold fn_MD_readOn
      rw [if_pos (show nI 20 = (20 : Int32) from rfl)]
      exact bv_eq a2
  · have he2 : e < 20 := by omega
    obtain ⟨a1, b1⟩ := hR.at_ hr he2
    obtain ⟨J2, g2, ⟨a2, b2⟩, q2⟩ := forget_ok a1 hr
    obtain ⟨a3, b3⟩ := a2.mode hr (m := 2) (by omega)
    have f := (b1.tr b2).tr b3
    obtain ⟨n', I', J', cnt', c1, c2, c3, c4, c5⟩ := step_ok hz hK hr a3 (hC.fr f) (m := 2) (by rw [up_ap, if_pos ⟨rfl, rfl⟩]) (by omega) (by omega)
    refine ⟨I', J', cnt', ?_, ?_, c3, c4, c5.2.1.trans (f.msg ht)⟩
    · unfold fn_FL_readOn fn_RC_beginReading
      rw [if_pos (show nI e < (20 : Int32) from nlt (b := 20) he2 (by omega)), let_eq, let_eq, let_eq]
      exact bv_eq (f := fun I2 => fw_bd (fn_FL_sendStep K I2 0 (29 + 3 * N + r)) fun r6 I4 => some I4) rfl |>.trans (bd_eq c1)
    · unfold fn_MD_readOn
      rw [if_neg (show ¬ nI e = (20 : Int32) from fun q => h20 ((neq (a := e) (b := 20) (by omega) (by omega)).mp q)), m_at hR.1, gd_eq (g_at (by omega)), ncl (by omega), let_eq, bv_eq g2, m_mode a2.1, gd_eq (g_mode (by omega)), let_eq]
      exact bd_eq c2
theorem fenced_ok {N W Q : Nat} (hz : sz N W Q) {K : Nat → Nat × Nat} (hK : kX N K) {t r cnt s : Nat} (hr : r < 2) {h : Nat → Nat} {I J : Nat → Nat → Int32} {x4 v : Int32} (hR : R0 N W Q I J) (hC : pC N I J cnt t h) (hs : s < N) (h2 : I (4 + 3 * N + t) 2 = nI s) (h4 : I (4 + 3 * N + t) 4 = v) (hv : mk v) (hm : J 9 (r + 1) = 1) :
    ∃ I' J' cnt', fn_FL_hearFenced K I 0 (29 + 3 * N + r) (4 + 3 * N + t) = some I' ∧ fn_MD_learns (fw_k LMl) J 0 5 (nI (r + 1)) (nI s) x4 v = some J' ∧ R0 N W Q I' J' ∧ pC N I' J' cnt' t h ∧ I' (4 + 3 * N + t) = I (4 + 3 * N + t) := by
  have z2 := hz.2.1
  have ht := hC.2.1
  obtain ⟨p1, p2, p3, p4, p5, p6, p7, ⟨b, hb, p8, p9⟩, p10, p11, p12⟩ := hR.2.2.2.2 r hr
  have hb5 := b32 hz hb
  obtain ⟨⟨a1, b1⟩, hbn, hB⟩ := hR.note hz hr hs hb p9
  let hi : Int32 := if v ≤ J 12 (r + 1) then J 12 (r + 1) else v
  have hhi : (if J 12 (r + 1) < v then v else J 12 (r + 1)) = hi := by
    show _ = if v ≤ J 12 (r + 1) then J 12 (r + 1) else v
    by_cases q : J 12 (r + 1) < v
    · rw [if_pos q, if_neg (fun q' => absurd q (Int32.not_lt.mpr q'))]
    · rw [if_neg q, if_pos (Int32.not_lt.mp q)]
  have hmk : mk hi := by
    show mk (if v ≤ J 12 (r + 1) then J 12 (r + 1) else v)
    by_cases q : v ≤ J 12 (r + 1)
    · rw [if_pos q]; exact p11
    · rw [if_neg q]; exact hv
  obtain ⟨a2, b2⟩ := a1.high hr hmk
  have f := b1.tr b2
  obtain ⟨c, hc, c1, c2⟩ := cov_ok hz (K := K) a2.1 a2.2.1 hr hbn (r := r) (b := b ||| 2 ^ s) (fun s' hs' => by rw [up_row (by omega)]; exact hB s' hs') (N - 0) 200 0 rfl (by omega) (by omega)
  have g12 : fw_up2 J 14 (5 * (r + 1) + s) 1 12 (r + 1) = J 12 (r + 1) := by rw [up_row (by omega)]
  have e1 : fn_FL_hearFenced K I 0 (29 + 3 * N + r) (4 + 3 * N + t) = if c = 0 then some (fw_up2 (fw_up2 I (29 + 3 * N + r) 4 (nI (b ||| 2 ^ s))) (29 + 3 * N + r) 5 hi) else fw_bv (fn_FL_readOn K (fw_up2 (fw_up2 I (29 + 3 * N + r) 4 (nI (b ||| 2 ^ s))) (29 + 3 * N + r) 5 hi) 0 (29 + 3 * N + r) (hi + 1)) fun I8 => some I8 := by
    unfold fn_FL_hearFenced fn_RC_noteAnswer
    rw [p8, h2, bit_or b hb5 s (by omega), let_eq]
    refine (bv_eq rfl).trans ?_
    rw [b1.msg ht, h4, up_nj (j := 4) (j' := 5) (by decide), p10, hhi, let_eq, up_nj (j := 5) (j' := 4) (by decide), up_at (j := 4)]
    refine (bd_eq c1).trans ?_
    rw [up_at (j := 5)]
  have e2 : fn_MD_learns (fw_k LMl) J 0 5 (nI (r + 1)) (nI s) x4 v = if c = 0 then some (fw_up2 (fw_up2 J 14 (5 * (r + 1) + s) 1) 12 (r + 1) hi) else fw_bv (fn_MD_readOn (fw_k LMl) (fw_up2 (fw_up2 J 14 (5 * (r + 1) + s) 1) 12 (r + 1) hi) 0 (nI (r + 1)) (hi + 1)) fun I8 => some I8 := by
    unfold fn_MD_learns
    rw [if_pos rfl, m_mode hR.1, gd_eq (g_mode (by omega)), ncl (by omega), if_pos hm, m_ans hR.1, n5, nI_add, gd_eq (g_ans (by omega)), ncl (by omega), let_eq, m_high a1.1, m_high a1.1, gd_eq (g_high (by omega)), g12]
    by_cases q : v ≤ J 12 (r + 1)
    · have hq : J 12 (r + 1) = hi := (if_pos q).symm
      rw [if_pos q, m_high a1.1, gd_eq (g_high (by omega)), gd_eq (g_high (by omega)), g12, hq, let_eq]
      unfold fn_MD_covers
      refine (bd_eq c2).trans ?_
      rw [m_high a2.1, gd_eq (g_high (by omega)), up_at (k := 12)]
    · have hq : v = hi := (if_neg q).symm
      rw [if_neg q, gd_eq (g_high (by omega)), hq, let_eq]
      unfold fn_MD_covers
      refine (bd_eq c2).trans ?_
      rw [m_high a2.1, gd_eq (g_high (by omega)), up_at (k := 12)]
  by_cases hc0 : c = 0
  · rw [if_pos hc0] at e1 e2
    exact ⟨_, _, cnt, e1, e2, a2, hC.fr f, f.msg ht⟩
  · rw [if_neg hc0] at e1 e2
    obtain ⟨a, ha, haa⟩ := hmk
    rw [haa, add_1, ← haa] at e1 e2
    obtain ⟨I', J', cnt', d1, d2, d3, d4, d5⟩ := readOn_ok hz hK hr a2 (hC.fr f) ha
    exact ⟨I', J', cnt', e1.trans (bv_eq d1), e2.trans (bv_eq d2), d3, d4, d5.trans (f.msg ht)⟩
theorem missing_ok {N W Q : Nat} (hz : sz N W Q) {K : Nat → Nat × Nat} {t r cnt s e : Nat} (hr : r < 2) {h : Nat → Nat} {I J : Nat → Nat → Int32} (hR : R0 N W Q I J) (hC : pC N I J cnt t h) (hs : s < N) (h2 : I (4 + 3 * N + t) 2 = nI s) (he : e < 20) (hm : J 9 (r + 1) = 2) (ha : nI e = J 11 (r + 1)) :
    ∃ I' J' cnt', fn_FL_hearMissing K I 0 (29 + 3 * N + r) (4 + 3 * N + t) = some I' ∧ fn_MD_learns_139 (fw_k LMl) J 0 7 (nI (r + 1)) (nI e) (nI (5 * (r + 1) + s)) = some J' ∧ R0 N W Q I' J' ∧ pC N I' J' cnt' t h ∧ I' (4 + 3 * N + t) = I (4 + 3 * N + t) := by
  have z2 := hz.2.1
  have ht := hC.2.1
  obtain ⟨p1, p2, p3, p4, p5, p6, p7, ⟨b, hb, p8, p9⟩, p10, p11, p12⟩ := hR.2.2.2.2 r hr
  have hb5 := b32 hz hb
  obtain ⟨⟨a1, b1⟩, hbn, hB⟩ := hR.note hz hr hs hb p9
  have e1 : fn_FL_hearMissing K I 0 (29 + 3 * N + r) (4 + 3 * N + t) = if nI (pc5 (b ||| 2 ^ s)) < nI W - nI Q + 1 then some (fw_up2 I (29 + 3 * N + r) 4 (nI (b ||| 2 ^ s))) else fw_bv (fn_FL_finish K (fw_up2 I (29 + 3 * N + r) 4 (nI (b ||| 2 ^ s))) 0 (29 + 3 * N + r) (nI e - 1)) fun I8 => some I8 := by
    unfold fn_FL_hearMissing fn_RC_noteAnswer
    rw [p8, h2, bit_or b hb5 s (by omega), let_eq]
    refine (bv_eq rfl).trans ?_
    unfold fn_RC_countAnswered
    rw [bd_eq (bd_eq (bc_eq (by rw [up_ap, if_pos ⟨rfl, rfl⟩]) (b32 hz hbn))), a1.2.1.2.1, a1.2.1.2.2.1, up_nj (j := 4) (j' := 3) (by decide), p6, ha]
  have e2 : fn_MD_learns_139 (fw_k LMl) J 0 7 (nI (r + 1)) (nI e) (nI (5 * (r + 1) + s)) = if nI (pc5 (b ||| 2 ^ s)) < nI W - nI Q + 1 then some (fw_up2 J 14 (5 * (r + 1) + s) 1) else fw_bv (fn_MD_finish (fw_k LMl) (fw_up2 J 14 (5 * (r + 1) + s) 1) 0 (nI (r + 1)) (nI e - 1)) fun I8 => some I8 := by
    unfold fn_MD_learns_139
    rw [if_pos rfl, m_mode hR.1, gd_eq (g_mode (by omega)), ncl (by omega), if_pos hm, m_at hR.1, gd_eq (g_at (by omega)), if_pos ha, m_ans hR.1, gd_eq (g_ans (by omega)), ncl (by omega), let_eq, bd_eq (ans_ok hz (I := I) a1.1 a1.2.1.2.2.2.2.2.2.2.1 hr hbn hB), a1.2.1.2.2.2.2.2.2.2.2.1, a1.2.1.2.2.2.2.2.2.2.2.2.1, m_at a1.1, gd_eq (g_at (by omega)), up_row (k' := 11) (by omega), ← ha]
  by_cases hc0 : nI (pc5 (b ||| 2 ^ s)) < nI W - nI Q + 1
  · rw [if_pos hc0] at e1 e2
    exact ⟨_, _, cnt, e1, e2, a1, hC.fr b1, b1.msg ht⟩
  · rw [if_neg hc0] at e1 e2
    obtain ⟨I', J', d1, d2, d3, d4⟩ := finish_ok hr (K := K) a1 (x := nI e - 1) ⟨e, by omega, rfl⟩
    exact ⟨I', J', cnt, e1.trans (bv_eq d1), e2.trans (bv_eq d2), d3, (hC.fr b1).fr d4, (d4.msg ht).trans (b1.msg ht)⟩
theorem added_ok {N W Q : Nat} (hz : sz N W Q) {K : Nat → Nat × Nat} (hK : kX N K) {t r cnt s e : Nat} (hr : r < 2) {h : Nat → Nat} {I J : Nat → Nat → Int32} (hR : R0 N W Q I J) (hC : pC N I J cnt t h) (hs : s < N) (h2 : I (4 + 3 * N + t) 2 = nI s) (he : e < 20) (hm : J 9 (r + 1) = 3) (ha : nI e = J 11 (r + 1)) :
    ∃ I' J' cnt', fn_FL_hearAdded K I 0 (29 + 3 * N + r) (4 + 3 * N + t) = some I' ∧ fn_MD_learns_209 (fw_k LMl) J 0 3 (nI (r + 1)) (nI e) (nI (5 * (r + 1) + s)) = some J' ∧ R0 N W Q I' J' ∧ pC N I' J' cnt' t h ∧ I' (4 + 3 * N + t) = I (4 + 3 * N + t) := by
  have z2 := hz.2.1
  have ht := hC.2.1
  obtain ⟨p1, p2, p3, p4, p5, p6, p7, ⟨b, hb, p8, p9⟩, p10, p11, p12⟩ := hR.2.2.2.2 r hr
  have hb5 := b32 hz hb
  obtain ⟨⟨a1, b1⟩, hbn, hB⟩ := hR.note hz hr hs hb p9
  have e1 : fn_FL_hearAdded K I 0 (29 + 3 * N + r) (4 + 3 * N + t) = if nI (pc5 (b ||| 2 ^ s)) < nI Q then some (fw_up2 I (29 + 3 * N + r) 4 (nI (b ||| 2 ^ s))) else fw_bv (fn_FL_readOn K (fw_up2 I (29 + 3 * N + r) 4 (nI (b ||| 2 ^ s))) 0 (29 + 3 * N + r) (nI (e + 1))) fun I8 => some I8 := by
    unfold fn_FL_hearAdded fn_RC_noteAnswer
    rw [p8, h2, bit_or b hb5 s (by omega), let_eq]
    refine (bv_eq rfl).trans ?_
    unfold fn_RC_countAnswered
    rw [bd_eq (bd_eq (bc_eq (by rw [up_ap, if_pos ⟨rfl, rfl⟩]) (b32 hz hbn))), a1.2.1.2.2.1, up_nj (j := 4) (j' := 3) (by decide), p6, ← ha, na1]
  have e2 : fn_MD_learns_209 (fw_k LMl) J 0 3 (nI (r + 1)) (nI e) (nI (5 * (r + 1) + s)) = if nI (pc5 (b ||| 2 ^ s)) < nI Q then some (fw_up2 J 14 (5 * (r + 1) + s) 1) else fw_bv (fn_MD_readOn (fw_k LMl) (fw_up2 J 14 (5 * (r + 1) + s) 1) 0 (nI (r + 1)) (nI (e + 1))) fun I8 => some I8 := by
    unfold fn_MD_learns_209
    rw [if_pos rfl, m_mode hR.1, gd_eq (g_mode (by omega)), ncl (by omega), if_pos hm, m_at hR.1, gd_eq (g_at (by omega)), if_pos ha, m_ans hR.1, gd_eq (g_ans (by omega)), ncl (by omega), let_eq, bd_eq (ans_ok hz (I := I) a1.1 a1.2.1.2.2.2.2.2.2.2.1 hr hbn hB), a1.2.1.2.2.2.2.2.2.2.2.2.1, na1]
  by_cases hc0 : nI (pc5 (b ||| 2 ^ s)) < nI Q
  · rw [if_pos hc0] at e1 e2
    exact ⟨_, _, cnt, e1, e2, a1, hC.fr b1, b1.msg ht⟩
  · rw [if_neg hc0] at e1 e2
    obtain ⟨I', J', cnt', d1, d2, d3, d4, d5⟩ := readOn_ok hz hK hr a1 (hC.fr b1) (show e + 1 ≤ 20 by omega)
    exact ⟨I', J', cnt', e1.trans (bv_eq d1), e2.trans (bv_eq d2), d3, d4, d5.trans (b1.msg ht)⟩
theorem got_ok {N W Q : Nat} (hz : sz N W Q) {K : Nat → Nat × Nat} (hK : kX N K) {t r cnt : Nat} (hr : r < 2) {h : Nat → Nat} {I J : Nat → Nat → Int32} {x4 x6 v : Int32} (hR : R0 N W Q I J) (hC : pC N I J cnt t h) (hm : J 9 (r + 1) = 2) (ha : x4 = J 11 (r + 1)) :
    ∃ I' J' cnt', (fw_bv (fn_RC_beginWritingBack K I (29 + 3 * N + r) v) fun I25 => fw_bd (fn_FL_sendStep K I25 0 (29 + 3 * N + r)) fun _ I27 => some I27) = some I' ∧ fn_MD_learns_82 (fw_k LMl) J 0 6 (nI (r + 1)) x4 v x6 = some J' ∧ R0 N W Q I' J' ∧ pC N I' J' cnt' t h ∧ I' (4 + 3 * N + t) = I (4 + 3 * N + t) := by
  have ht := hC.2.1
  obtain ⟨a1, b1⟩ := hR.mode hr (m := 3) (by omega)
  obtain ⟨a2, b2⟩ := a1.back hr (x := v)
  obtain ⟨J3, g3, ⟨a3, b3⟩, q3⟩ := forget_ok a2 hr
  have f := (b1.tr b2).tr b3
  obtain ⟨n', I', J', cnt', c1, c2, c3, c4, c5⟩ := step_ok hz hK hr a3 (hC.fr f) (m := 3) (by rw [q3 9 (by omega), up_row (by omega), up_ap, if_pos ⟨rfl, rfl⟩]) (by omega) (by omega)
  refine ⟨I', J', cnt', ?_, ?_, c3, c4, c5.2.1.trans (f.msg ht)⟩
  · have e : fn_RC_beginWritingBack K I (29 + 3 * N + r) v = some (fw_up2 (fw_up2 (fw_up2 I (29 + 3 * N + r) 1 (nI 3)) (29 + 3 * N + r) 6 v) (29 + 3 * N + r) 4 0) := by
      unfold fn_RC_beginWritingBack
      rw [let_eq, let_eq, let_eq, up_comm (j := 4) (j' := 1) (Or.inr (by omega)), up_comm (j := 6) (j' := 1) (Or.inr (by omega))]
      rfl
    rw [bv_eq e]
    exact bd_eq c1
  · unfold fn_MD_learns_82
    rw [if_pos rfl, m_mode hR.1, gd_eq (g_mode (by omega)), ncl (by omega), if_pos hm, m_at hR.1, gd_eq (g_at (by omega)), if_pos ha, m_mode hR.1, gd_eq (g_mode (by omega)), let_eq]
    show fw_ld (fw_k LMl) (fw_up2 J 9 (r + 1) (nI 3) 0 23) 20 _ = _
    rw [m_back a1.1, gd_eq (g_back (by omega)), let_eq]
    refine (bv_eq g3).trans ?_
    exact bd_eq c2
