/-! counting answers -/
def psum (b : Nat) : Nat → Nat
  | 0 => 0
  | n + 1 => psum b n + (b.testBit n).toNat
theorem psum_full : ∀ N, N < 6 → ∀ b, b < 2 ^ N → psum b N = pc5 b := by decide +kernel
theorem psum_lt {b : Nat} : ∀ n, psum b n ≤ n := by
  intro n
  induction n with
  | zero => exact Nat.le_refl _
  | succ n ih =>
    show psum b n + (b.testBit n).toNat ≤ n + 1
    have := Bool.toNat_le (b.testBit n)
    omega
theorem pb_0 {b s : Nat} (h : b.testBit s = false) : pb b s = 0 := by
  unfold pb
  rw [h]
  rfl
theorem pb_1 {b s : Nat} (h : b.testBit s = true) : ¬ pb b s = 0 := by
  unfold pb
  rw [h]
  decide
theorem ack_cnt {N e b : Nat} (hN : N ≤ 5) (he : e < 20) : ∀ (d f s n : Nat) (J : Nat → Nat → Int32), N - s = d → d < f → s ≤ N → n = psum b s → pM J → J 0 1 = nI N → (∀ s, s < 5 → J 8 (20 * s + e) = pb b s) → fn_MD_ackCount_4 (fw_k LMl) f J 0 (nI e) (nI n) (nI s) = some (nI (psum b N), J) := by
  intro d
  induction d with
  | zero =>
    intro f s n J hd hf hs hn hM h1 hB
    obtain ⟨g, rfl⟩ : ∃ g, f = g + 1 := ⟨f - 1, by omega⟩
    rw [fn_MD_ackCount_4, h1, if_pos (nle (by omega) (by omega)), hn, show s = N by omega]
  | succ d ih =>
    intro f s n J hd hf hs hn hM h1 hB
    obtain ⟨g, rfl⟩ : ∃ g, f = g + 1 := ⟨f - 1, by omega⟩
    rw [fn_MD_ackCount_4, h1, if_neg (nnle (by omega) (by omega)), m_ack hM, n20, nI_add, gd_eq (g_ack (by omega)), ncl (by omega), hB s (by omega)]
    cases hq : b.testBit s with
    | false =>
      rw [if_pos (pb_0 hq), na0, na1]
      exact ih g (s + 1) n J (by omega) (by omega) (by omega) (by show n = psum b s + (b.testBit s).toNat; rw [hq, hn]; rfl) hM h1 hB
    | true =>
      rw [if_neg (pb_1 hq), na1, na1]
      exact ih g (s + 1) (n + 1) J (by omega) (by omega) (by omega) (by show n + 1 = psum b s + (b.testBit s).toNat; rw [hq, hn]; rfl) hM h1 hB
theorem ans_cnt {N r b : Nat} (hN : N ≤ 5) (hr : r < 2) : ∀ (d f s n : Nat) (J : Nat → Nat → Int32), N - s = d → d < f → s ≤ N → n = psum b s → pM J → J 0 1 = nI N → (∀ s, s < 5 → J 14 (5 * (r + 1) + s) = pb b s) → fn_MD_answerCount_4 (fw_k LMl) f J 0 (nI (r + 1)) (nI n) (nI s) = some (nI (psum b N), J) := by
  intro d
  induction d with
  | zero =>
    intro f s n J hd hf hs hn hM h1 hB
    obtain ⟨g, rfl⟩ : ∃ g, f = g + 1 := ⟨f - 1, by omega⟩
    rw [fn_MD_answerCount_4, h1, if_pos (nle (by omega) (by omega)), hn, show s = N by omega]
  | succ d ih =>
    intro f s n J hd hf hs hn hM h1 hB
    obtain ⟨g, rfl⟩ : ∃ g, f = g + 1 := ⟨f - 1, by omega⟩
    rw [fn_MD_answerCount_4, h1, if_neg (nnle (by omega) (by omega)), m_ans hM, n5, nI_add, gd_eq (g_ans (by omega)), ncl (by omega), hB s (by omega)]
    cases hq : b.testBit s with
    | false =>
      rw [if_pos (pb_0 hq), na0, na1]
      exact ih g (s + 1) n J (by omega) (by omega) (by omega) (by show n = psum b s + (b.testBit s).toNat; rw [hq, hn]; rfl) hM h1 hB
    | true =>
      rw [if_neg (pb_1 hq), na1, na1]
      exact ih g (s + 1) (n + 1) J (by omega) (by omega) (by omega) (by show n + 1 = psum b s + (b.testBit s).toNat; rw [hq, hn]; rfl) hM h1 hB
theorem ack_ok {N W Q e b : Nat} (hz : sz N W Q) {I J : Nat → Nat → Int32} (hR : R0 N W Q I J) (he : e < 20) (hb : b < 2 ^ N) (hB : ∀ s, s < 5 → J 8 (20 * s + e) = pb b s) : fn_MD_ackCount (fw_k LMl) J 0 (nI e) = some (nI (pc5 b), J) := by
  unfold fn_MD_ackCount
  rw [← psum_full N (by have := hz.2.1; omega) b hb]
  exact ack_cnt hz.2.1 he (N - 0) 200 0 0 J rfl (by have := hz.2.1; omega) (by omega) rfl hR.1 hR.2.1.2.2.2.2.2.2.2.1 hB
theorem ans_ok {N W Q r b : Nat} (hz : sz N W Q) {I J : Nat → Nat → Int32} (hM : pM J) (h1 : J 0 1 = nI N) (hr : r < 2) (hb : b < 2 ^ N) (hB : ∀ s, s < 5 → J 14 (5 * (r + 1) + s) = pb b s) : fn_MD_answerCount (fw_k LMl) J 0 (nI (r + 1)) = some (nI (pc5 b), J) := by
  unfold fn_MD_answerCount
  rw [← psum_full N (by have := hz.2.1; omega) b hb]
  exact ans_cnt hz.2.1 hr (N - 0) 200 0 0 J rfl (by have := hz.2.1; omega) (by omega) rfl hM h1 hB
theorem b32 {N W Q b : Nat} (hz : sz N W Q) (hb : b < 2 ^ N) : b < 32 := Nat.lt_of_lt_of_le hb (Nat.pow_le_pow_right (n := 2) (by decide) hz.2.1)
/-! is the writer fenced out -/
def sil (b N e : Nat) : Nat → Nat
  | 0 => 0
  | j + 1 => sil b N e j + (if b.testBit ((e + j) % N) = true then 0 else 1)
theorem sil_le {b N e : Nat} : ∀ j, sil b N e j ≤ j := by
  intro j
  induction j with
  | zero => exact Nat.le_refl _
  | succ j ih =>
    show sil b N e j + (if b.testBit ((e + j) % N) = true then 0 else 1) ≤ j + 1
    split <;> omega
theorem sil_cls {N W Q : Nat} (hz : sz N W Q) {K : Nat → Nat × Nat} {I : Nat → Nat → Int32} (h0 : I 0 0 = nI N) (h1 : I 0 1 = nI W) {e b : Nat} (he : e < 5) (hb : b < 2 ^ N) : ∀ (d f j n : Nat), W - j = d → d < f → j ≤ W → n = sil b N e j → fn_FL_countSilent_5 K f I 0 (nI e) (nI b) (nI n) (nI j) = some (nI (sil b N e W), I) := by
  have hb5 := b32 hz hb
  obtain ⟨z1, z2, z3, z4, z5, z6⟩ := hz
  intro d
  induction d with
  | zero =>
    intro f j n hd hf hj hn
    obtain ⟨g, rfl⟩ : ∃ g, f = g + 1 := ⟨f - 1, by omega⟩
    rw [fn_FL_countSilent_5, h1, if_pos (nle (by omega) (by omega)), hn, show j = W by omega]
  | succ d ih =>
    intro f j n hd hf hj hn
    obtain ⟨g, rfl⟩ : ∃ g, f = g + 1 := ⟨f - 1, by omega⟩
    have hs : (e + j) % N < N := Nat.mod_lt _ (by omega)
    rw [fn_FL_countSilent_5, h1, if_neg (nnle (by omega) (by omega)), bd_eq (memb h0 ⟨z1, z2⟩ (by omega) (by omega))]
    cases hq : b.testBit ((e + j) % N) with
    | false =>
      rw [if_pos ((bit_tst b hb5 _ (by omega)).mpr hq), na1, na1]
      exact ih g (j + 1) (n + 1) (by omega) (by omega) (by omega) (by show n + 1 = sil b N e j + (if b.testBit ((e + j) % N) = true then 0 else 1); rw [hq, hn]; rfl)
    | true =>
      rw [if_neg (fun q => by rw [(bit_tst b hb5 _ (by omega)).mp q] at hq; cases hq), na1]
      exact ih g (j + 1) n (by omega) (by omega) (by omega) (by show n = sil b N e j + (if b.testBit ((e + j) % N) = true then 0 else 1); rw [hq, hn]; rfl)
theorem sil_md {N W Q : Nat} (hz : sz N W Q) {J : Nat → Nat → Int32} (hM : pM J) (h1 : J 0 1 = nI N) (h2 : J 0 2 = nI W) (h3 : J 0 3 = nI Q) {e b r : Nat} (hr : r < 2) (he : e < 5) (hB : ∀ s, s < 5 → J 14 (5 * (r + 1) + s) = pb b s) {kt : (Nat → Nat → Int32) → Nat → Int32 → Int32 → Int32 → Option (Int32 × (Nat → Nat → Int32))} {x2 : Int32} : ∀ (d f j n : Nat), W - j = d → d < f → j ≤ W → n = sil b N e j → fn_MD_covers_18 (fw_k LMl) kt f J 0 (nI (r + 1)) x2 (nI e) (nI n) (nI j) = kt J 0 (nI (r + 1)) (if x2 = 0 then 0 else if Q ≤ sil b N e W then 0 else 1) (nI (e + 1)) := by
  obtain ⟨z1, z2, z3, z4, z5, z6⟩ := hz
  intro d
  induction d with
  | zero =>
    intro f j n hd hf hj hn
    obtain ⟨g, rfl⟩ : ∃ g, f = g + 1 := ⟨f - 1, by omega⟩
    have hjw : j = W := by omega
    subst hjw
    have hsl := sil_le (b := b) (N := N) (e := e) j
    rw [fn_MD_covers_18, h2, if_pos (nle (by omega) (by omega)), na1]
    by_cases hx : x2 = 0
    · rw [if_pos hx, if_pos hx]
    · rw [if_neg hx, if_neg hx, h3, hn]
      by_cases hq : Q ≤ sil b N e j
      · rw [if_pos (nle hq (by omega)), if_pos hq]
      · rw [if_neg (nnle (by omega) (by omega)), if_neg hq]
  | succ d ih =>
    intro f j n hd hf hj hn
    obtain ⟨g, rfl⟩ : ∃ g, f = g + 1 := ⟨f - 1, by omega⟩
    have hs : (e + j) % N < N := Nat.mod_lt _ (by omega)
    have hnz : decide (¬ nI N = 0) = true := decide_eq_true (by intro h; have := (neq (a := N) (b := 0) (by omega) (by omega)).mp h; omega)
    have hsm : nI (e + j) - nI (e + j) / nI N * nI N = nI ((e + j) % N) := set_m _ (by omega) _ (by omega) (by omega)
    rw [fn_MD_covers_18, h2, if_neg (nnle (by omega) (by omega)), m_ans hM, h1, gd_eq hnz, nI_add, hsm, n5, nI_add, gd_eq (g_ans (by omega)), ncl (by omega), hB _ (by omega)]
    cases hq : b.testBit ((e + j) % N) with
    | false =>
      rw [if_pos (pb_0 hq), na1, na1]
      exact ih g (j + 1) (n + 1) (by omega) (by omega) (by omega) (by show n + 1 = sil b N e j + (if b.testBit ((e + j) % N) = true then 0 else 1); rw [hq, hn]; rfl)
    | true =>
      rw [if_neg (pb_1 hq), na0, na1]
      exact ih g (j + 1) n (by omega) (by omega) (by omega) (by show n = sil b N e j + (if b.testBit ((e + j) % N) = true then 0 else 1); rw [hq, hn]; rfl)
theorem cov_0 {N W Q : Nat} (hz : sz N W Q) {J : Nat → Nat → Int32} (hM : pM J) (h1 : J 0 1 = nI N) (h2 : J 0 2 = nI W) (h3 : J 0 3 = nI Q) {b r : Nat} (hr : r < 2) (hB : ∀ s, s < 5 → J 14 (5 * (r + 1) + s) = pb b s) : ∀ (d f e : Nat), N - e = d → d < f → e ≤ N → fn_MD_covers_4 (fw_k LMl) f J 0 (nI (r + 1)) 0 (nI e) = some (0, J) := by
  intro d
  induction d with
  | zero =>
    intro f e hd hf he
    obtain ⟨g, rfl⟩ : ∃ g, f = g + 1 := ⟨f - 1, by omega⟩
    rw [fn_MD_covers_4, h1, if_pos (nle (by omega) (by have := hz.2.1; omega))]
    rfl
  | succ d ih =>
    intro f e hd hf he
    obtain ⟨g, rfl⟩ : ∃ g, f = g + 1 := ⟨f - 1, by omega⟩
    have z2 := hz.2.1
    rw [fn_MD_covers_4, h1, if_neg (nnle (by omega) (by omega))]
    have h := sil_md hz hM h1 h2 h3 (e := e) (b := b) hr (by omega) hB (kt := fn_MD_covers_4 (fw_k LMl) g) (x2 := 0) (W - 0) 200 0 0 rfl (by have := hz.2.2.2.1; omega) (by omega) rfl
    refine Eq.trans h ?_
    rw [if_pos rfl]
    exact ih g (e + 1) (by omega) (by omega) (by omega)
theorem cov_ok {N W Q : Nat} (hz : sz N W Q) {K : Nat → Nat × Nat} {I J : Nat → Nat → Int32} (hM : pM J) (hF : pF N W Q I J) {b r : Nat} (hr : r < 2) (hb : b < 2 ^ N) (hB : ∀ s, s < 5 → J 14 (5 * (r + 1) + s) = pb b s) : ∀ (d f e : Nat), N - e = d → d < f → e ≤ N → ∃ v, (v = 0 ∨ v = 1) ∧ fn_FL_isWriterFencedOut_2 K f I 0 (nI b) (nI e) = some (v, I) ∧ fn_MD_covers_4 (fw_k LMl) f J 0 (nI (r + 1)) 1 (nI e) = some (v, J) := by
  obtain ⟨f0, f1, f2, -, -, -, -, k1, k2, k3, -⟩ := hF
  have z2 := hz.2.1
  have z4 := hz.2.2.2.1
  have z6 := hz.2.2.2.2.2
  intro d
  induction d with
  | zero =>
    intro f e hd hf he
    obtain ⟨g, rfl⟩ : ∃ g, f = g + 1 := ⟨f - 1, by omega⟩
    refine ⟨1, Or.inr rfl, ?_, ?_⟩
    · rw [fn_FL_isWriterFencedOut_2, f0, if_pos (nle (by omega) (by omega))]
    · rw [fn_MD_covers_4, k1, if_pos (nle (by omega) (by omega))]
      rfl
  | succ d ih =>
    intro f e hd hf he
    obtain ⟨g, rfl⟩ : ∃ g, f = g + 1 := ⟨f - 1, by omega⟩
    have hsl := sil_le (b := b) (N := N) (e := e) W
    have hcs : fn_FL_countSilent K I 0 (nI e) (nI b) = some (nI (sil b N e W), I) := sil_cls hz f0 f1 (by omega) hb (W - 0) 200 0 0 rfl (by omega) (by omega) rfl
    have h := sil_md hz hM k1 k2 k3 (e := e) (b := b) hr (by omega) hB (kt := fn_MD_covers_4 (fw_k LMl) g) (x2 := 1) (W - 0) 200 0 0 rfl (by omega) (by omega) rfl
    by_cases hq : Q ≤ sil b N e W
    · refine ⟨0, Or.inl rfl, ?_, ?_⟩
      · rw [fn_FL_isWriterFencedOut_2, f0, if_neg (nnle (by omega) (by omega)), bd_eq hcs, f2, if_neg (nnlt hq (by omega))]
      · rw [fn_MD_covers_4, k1, if_neg (nnle (by omega) (by omega))]
        refine Eq.trans h ?_
        rw [if_neg (by decide), if_pos hq]
        exact cov_0 hz hM k1 k2 k3 hr hB d g (e + 1) (by omega) (by omega) (by omega)
    · obtain ⟨v, v1, v2, v3⟩ := ih g (e + 1) (by omega) (by omega) (by omega)
      refine ⟨v, v1, ?_, ?_⟩
      · rw [fn_FL_isWriterFencedOut_2, f0, if_neg (nnle (by omega) (by omega)), bd_eq hcs, f2, if_pos (nlt (by omega) (by omega)), na1]
        exact v2
      · rw [fn_MD_covers_4, k1, if_neg (nnle (by omega) (by omega))]
        refine Eq.trans h ?_
        rw [if_neg (by decide), if_neg hq]
        exact v3
