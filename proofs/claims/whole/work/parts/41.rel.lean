/-! the relation of the two memories. N, W, Q: how many stores, how wide, how many answers count; the class's cells: 0 the ledger, 1 its stores, 2 + 3 s, 3 + 3 s, 4 + 3 s store s, what it has, its values; 2 + 3 N the channel, 3 + 3 N its rows, 4 + 3 N .. 24 + 3 N the messages; 25 + 3 N .. 27 + 3 N the writer, its values, its answers; 28 + 3 N .. 30 + 3 N the recoverers -/
def kX (N : Nat) (K : Nat → Nat × Nat) : Prop := (K 0).1 = 5 ∧ K 1 = (23, N) ∧ (∀ s, s < N → (K (2 + 3 * s)).1 = 3 ∧ K (3 + 3 * s) = (21, 20) ∧ K (4 + 3 * s) = (20, 20)) ∧ (K (2 + 3 * N)).1 = 0 ∧ K (3 + 3 * N) = (24, 20) ∧ (∀ i, i < 21 → (K (4 + 3 * N + i)).1 = 1) ∧ (K (25 + 3 * N)).1 = 4 ∧ K (26 + 3 * N) = (20, 20) ∧ K (27 + 3 * N) = (20, 20) ∧ K (28 + 3 * N) = (25, 2) ∧ ∀ r, r < 2 → (K (29 + 3 * N + r)).1 = 2
def LMl : List (Nat × Nat) := [(6, 0), (21, 5), (21, 5), (20, 5), (21, 100), (20, 100), (20, 140), (20, 20), (21, 100), (20, 3), (20, 3), (20, 3), (20, 3), (20, 3), (21, 15)]
/-- the model's arrays -/
def pM (J : Nat → Nat → Int32) : Prop := J 0 4 = nI 1 ∧ J 0 5 = nI 2 ∧ J 0 6 = nI 3 ∧ J 0 7 = nI 4 ∧ J 0 8 = nI 5 ∧ J 0 13 = nI 6 ∧ J 0 17 = nI 7 ∧ J 0 18 = nI 8 ∧ J 0 19 = nI 9 ∧ J 0 20 = nI 10 ∧ J 0 21 = nI 11 ∧ J 0 22 = nI 12 ∧ J 0 23 = nI 13 ∧ J 0 24 = nI 14
/-- a mark, or an entry before another: -1 .. 19 -/
def mk (x : Int32) : Prop := ∃ a, a ≤ 20 ∧ x = nI a - 1
/-- the ledger -/
def pF (N W Q : Nat) (I J : Nat → Nat → Int32) : Prop := I 0 0 = nI N ∧ I 0 1 = nI W ∧ I 0 2 = nI Q ∧ I 0 3 = nI 1 ∧ I 0 4 = nI (2 + 3 * N) ∧ I 0 5 = nI (25 + 3 * N) ∧ I 0 6 = nI (28 + 3 * N) ∧ J 0 1 = nI N ∧ J 0 2 = nI W ∧ J 0 3 = nI Q ∧ I 0 7 = J 0 9 ∧ I 0 8 = J 0 10 ∧ I 0 9 = J 0 11 ∧ mk (I 0 9)
/-- how many entries a store has -/
def cntK (f : Nat → Int32) : Nat → Nat
  | 0 => 0
  | n + 1 => cntK f n + (if f n = 0 then 0 else 1)
/-- the stores -/
def pS (N : Nat) (I J : Nat → Nat → Int32) : Prop := ∀ s, s < N → I 1 s = nI (2 + 3 * s) ∧ I (2 + 3 * s) 0 = nI (3 + 3 * s) ∧ I (2 + 3 * s) 1 = nI (4 + 3 * s) ∧ ((I (2 + 3 * s) 2 = 1 ∧ J 1 s = 0) ∨ (I (2 + 3 * s) 2 = 0 ∧ J 1 s = 1)) ∧ I (2 + 3 * s) 3 = J 2 s ∧ (J 2 s = 0 ∨ J 2 s = 1) ∧ I (2 + 3 * s) 4 = J 3 s ∧ mk (J 3 s) ∧ I (2 + 3 * s) 5 = nI (cntK (I (3 + 3 * s)) 20) ∧ ∀ e, e < 20 → I (3 + 3 * s) e = J 4 (20 * s + e) ∧ (J 4 (20 * s + e) = 0 ∨ J 4 (20 * s + e) = 1) ∧ I (4 + 3 * s) e = J 5 (20 * s + e)
/-- the writer -/
def pW (N : Nat) (I J : Nat → Nat → Int32) : Prop := I (25 + 3 * N) 0 = nI (26 + 3 * N) ∧ I (25 + 3 * N) 1 = nI (27 + 3 * N) ∧ I (25 + 3 * N) 2 = J 0 14 ∧ (∃ a l, a ≤ 20 ∧ l ≤ a ∧ I (25 + 3 * N) 3 = nI a ∧ J 0 15 = nI a ∧ I (25 + 3 * N) 4 = nI l - 1 ∧ J 0 16 = nI l - 1) ∧ ∀ e, e < 20 → I (26 + 3 * N) e = J 7 e ∧ ∃ b, b < 2 ^ N ∧ I (27 + 3 * N) e = nI b ∧ ∀ s, s < 5 → J 8 (20 * s + e) = pb b s
/-- a recoverer -/
def pR (N : Nat) (I J : Nat → Nat → Int32) : Prop := ∀ r, r < 2 → I (28 + 3 * N) r = nI (29 + 3 * N + r) ∧ I (29 + 3 * N + r) 0 = nI (r + 1) ∧ I (29 + 3 * N + r) 1 = J 9 (r + 1) ∧ (∃ m, m ≤ 4 ∧ J 9 (r + 1) = nI m) ∧ I (29 + 3 * N + r) 2 = J 10 (r + 1) ∧ I (29 + 3 * N + r) 3 = J 11 (r + 1) ∧ (∃ e, e < 20 ∧ J 11 (r + 1) = nI e) ∧ (∃ b, b < 2 ^ N ∧ I (29 + 3 * N + r) 4 = nI b ∧ ∀ s, s < 5 → J 14 (5 * (r + 1) + s) = pb b s) ∧ I (29 + 3 * N + r) 5 = J 12 (r + 1) ∧ mk (J 12 (r + 1)) ∧ I (29 + 3 * N + r) 6 = J 13 (r + 1)
/-- what a message may hold: kind, client, store, entry, value, term, mark -/
def okm (N : Nat) (m : Nat → Int32) : Prop := ∃ k r s e, k < 8 ∧ r < 3 ∧ s < N ∧ e < 20 ∧ m 0 = nI k ∧ m 1 = nI r ∧ m 2 = nI s ∧ m 3 = nI e ∧ mk (m 6) ∧ (k = 5 → mk (m 4)) ∧ (k = 1 ∨ k = 5 → e = 0) ∧ (r = 0 → (k = 0 ∨ k = 3 ∨ k = 4) ∧ m 5 = 0)
/-- the channel: cnt messages; t: the message taken out last; h: which message lies in row i -/
def pC (N : Nat) (I J : Nat → Nat → Int32) (cnt t : Nat) (h : Nat → Nat) : Prop := cnt ≤ 20 ∧ t < 21 ∧ I (2 + 3 * N) 0 = nI (3 + 3 * N) ∧ I (2 + 3 * N) 1 = nI (4 + 3 * N + t) ∧ I (2 + 3 * N) 2 = nI cnt ∧ J 0 12 = nI cnt ∧ (∀ i, i < 20 → I (3 + 3 * N) i = nI (4 + 3 * N + h i) ∧ h i < 21 ∧ h i ≠ t) ∧ (∀ i j, i < 20 → j < 20 → h i = h j → i = j) ∧ ∀ i, i < cnt → (∀ j, j < 7 → I (4 + 3 * N + h i) j = J 6 (7 * i + j)) ∧ okm N (fun j => J 6 (7 * i + j))
def mf (x1 x2 x3 x4 x5 x6 x7 : Int32) (j : Nat) : Int32 := match j with
  | 0 => x1
  | 1 => x2
  | 2 => x3
  | 3 => x4
  | 4 => x5
  | 5 => x6
  | _ => x7
def wm (I : Nat → Nat → Int32) (a : Nat) (x1 x2 x3 x4 x5 x6 x7 : Int32) : Nat → Nat → Int32 := fw_up2 (fw_up2 (fw_up2 (fw_up2 (fw_up2 (fw_up2 (fw_up2 I a 0 x1) a 1 x2) a 2 x3) a 3 x4) a 4 x5) a 5 x6) a 6 x7
theorem wm_at {I : Nat → Nat → Int32} {a : Nat} {x1 x2 x3 x4 x5 x6 x7 : Int32} {j : Nat} (hj : j < 7) : wm I a x1 x2 x3 x4 x5 x6 x7 a j = mf x1 x2 x3 x4 x5 x6 x7 j := by
  match j, hj with
  | 0, _ => simp [wm, up_ap, mf]
  | 1, _ => simp [wm, up_ap, mf]
  | 2, _ => simp [wm, up_ap, mf]
  | 3, _ => simp [wm, up_ap, mf]
  | 4, _ => simp [wm, up_ap, mf]
  | 5, _ => simp [wm, up_ap, mf]
  | 6, _ => simp [wm, up_ap, mf]
theorem wm_ne {I : Nat → Nat → Int32} {a k : Nat} {x1 x2 x3 x4 x5 x6 x7 : Int32} (h : k ≠ a) : wm I a x1 x2 x3 x4 x5 x6 x7 k = I k := by
  unfold wm
  rw [up_row h, up_row h, up_row h, up_row h, up_row h, up_row h, up_row h]
def wq (J : Nat → Nat → Int32) (c : Nat) (x1 x2 x3 x4 x5 x6 x7 : Int32) : Nat → Nat → Int32 := fw_up2 (fw_up2 (fw_up2 (fw_up2 (fw_up2 (fw_up2 (fw_up2 J 6 (7 * c) x1) 6 (7 * c + 1) x2) 6 (7 * c + 2) x3) 6 (7 * c + 3) x4) 6 (7 * c + 4) x5) 6 (7 * c + 5) x6) 6 (7 * c + 6) x7
theorem wq_at {J : Nat → Nat → Int32} {c : Nat} {x1 x2 x3 x4 x5 x6 x7 : Int32} {j : Nat} (hj : j < 7) : wq J c x1 x2 x3 x4 x5 x6 x7 6 (7 * c + j) = mf x1 x2 x3 x4 x5 x6 x7 j := by
  match j, hj with
  | 0, _ => simp [wq, up_ap, mf]
  | 1, _ => simp [wq, up_ap, mf]
  | 2, _ => simp [wq, up_ap, mf]
  | 3, _ => simp [wq, up_ap, mf]
  | 4, _ => simp [wq, up_ap, mf]
  | 5, _ => simp [wq, up_ap, mf]
  | 6, _ => simp [wq, up_ap, mf]
theorem wq_ne {J : Nat → Nat → Int32} {c k p : Nat} {x1 x2 x3 x4 x5 x6 x7 : Int32} (h : k ≠ 6 ∨ p < 7 * c ∨ 7 * c + 7 ≤ p) : wq J c x1 x2 x3 x4 x5 x6 x7 k p = J k p := by
  unfold wq
  rw [up_ap, if_neg (by omega), up_ap, if_neg (by omega), up_ap, if_neg (by omega), up_ap, if_neg (by omega), up_ap, if_neg (by omega), up_ap, if_neg (by omega), up_ap, if_neg (by omega)]
/-- what a sending leaves alone -/
def frS (N t : Nat) (I I' J J' : Nat → Nat → Int32) : Prop := (∀ k, k < 2 + 3 * N ∨ 25 + 3 * N ≤ k → I' k = I k) ∧ I' (4 + 3 * N + t) = I (4 + 3 * N + t) ∧ (∀ k, k ≠ 0 → k ≠ 6 → J' k = J k) ∧ ∀ j, j ≠ 12 → J' 0 j = J 0 j
theorem frS.rf {N t : Nat} {I J : Nat → Nat → Int32} : frS N t I I J J := ⟨fun _ _ => rfl, rfl, fun _ _ _ => rfl, fun _ _ => rfl⟩
theorem frS.tr {N t : Nat} {I I1 I2 J J1 J2 : Nat → Nat → Int32} (a : frS N t I I1 J J1) (b : frS N t I1 I2 J1 J2) : frS N t I I2 J J2 := ⟨fun k h => (b.1 k h).trans (a.1 k h), b.2.1.trans a.2.1, fun k h1 h2 => (b.2.2.1 k h1 h2).trans (a.2.2.1 k h1 h2), fun j h => (b.2.2.2 j h).trans (a.2.2.2 j h)⟩
theorem gd_t {ρ : Type} {x : Option ρ} : fw_gd true x = x := rfl
theorem m_off {ρ : Type} {J : Nat → Nat → Int32} (hM : pM J) (f : Nat → Option ρ) : fw_ld (fw_k LMl) (J 0 4) 21 f = f 1 := ld_eq hM.1 (by omega) rfl
theorem m_fen {ρ : Type} {J : Nat → Nat → Int32} (hM : pM J) (f : Nat → Option ρ) : fw_ld (fw_k LMl) (J 0 5) 21 f = f 2 := ld_eq hM.2.1 (by omega) rfl
theorem m_mark {ρ : Type} {J : Nat → Nat → Int32} (hM : pM J) (f : Nat → Option ρ) : fw_ld (fw_k LMl) (J 0 6) 20 f = f 3 := ld_eq hM.2.2.1 (by omega) rfl
theorem m_held {ρ : Type} {J : Nat → Nat → Int32} (hM : pM J) (f : Nat → Option ρ) : fw_ld (fw_k LMl) (J 0 7) 21 f = f 4 := ld_eq hM.2.2.2.1 (by omega) rfl
theorem m_hv {ρ : Type} {J : Nat → Nat → Int32} (hM : pM J) (f : Nat → Option ρ) : fw_ld (fw_k LMl) (J 0 8) 20 f = f 5 := ld_eq hM.2.2.2.2.1 (by omega) rfl
theorem m_fly {ρ : Type} {J : Nat → Nat → Int32} (hM : pM J) (f : Nat → Option ρ) : fw_ld (fw_k LMl) (J 0 13) 20 f = f 6 := ld_eq hM.2.2.2.2.2.1 (by omega) rfl
theorem m_wri {ρ : Type} {J : Nat → Nat → Int32} (hM : pM J) (f : Nat → Option ρ) : fw_ld (fw_k LMl) (J 0 17) 20 f = f 7 := ld_eq hM.2.2.2.2.2.2.1 (by omega) rfl
theorem m_ack {ρ : Type} {J : Nat → Nat → Int32} (hM : pM J) (f : Nat → Option ρ) : fw_ld (fw_k LMl) (J 0 18) 21 f = f 8 := ld_eq hM.2.2.2.2.2.2.2.1 (by omega) rfl
theorem m_mode {ρ : Type} {J : Nat → Nat → Int32} (hM : pM J) (f : Nat → Option ρ) : fw_ld (fw_k LMl) (J 0 19) 20 f = f 9 := ld_eq hM.2.2.2.2.2.2.2.2.1 (by omega) rfl
theorem m_term {ρ : Type} {J : Nat → Nat → Int32} (hM : pM J) (f : Nat → Option ρ) : fw_ld (fw_k LMl) (J 0 20) 20 f = f 10 := ld_eq hM.2.2.2.2.2.2.2.2.2.1 (by omega) rfl
theorem m_at {ρ : Type} {J : Nat → Nat → Int32} (hM : pM J) (f : Nat → Option ρ) : fw_ld (fw_k LMl) (J 0 21) 20 f = f 11 := ld_eq hM.2.2.2.2.2.2.2.2.2.2.1 (by omega) rfl
theorem m_high {ρ : Type} {J : Nat → Nat → Int32} (hM : pM J) (f : Nat → Option ρ) : fw_ld (fw_k LMl) (J 0 22) 20 f = f 12 := ld_eq hM.2.2.2.2.2.2.2.2.2.2.2.1 (by omega) rfl
theorem m_back {ρ : Type} {J : Nat → Nat → Int32} (hM : pM J) (f : Nat → Option ρ) : fw_ld (fw_k LMl) (J 0 23) 20 f = f 13 := ld_eq hM.2.2.2.2.2.2.2.2.2.2.2.2.1 (by omega) rfl
theorem m_ans {ρ : Type} {J : Nat → Nat → Int32} (hM : pM J) (f : Nat → Option ρ) : fw_ld (fw_k LMl) (J 0 24) 21 f = f 14 := ld_eq hM.2.2.2.2.2.2.2.2.2.2.2.2.2 (by omega) rfl
theorem okm_of {N : Nat} {m m' : Nat → Int32} (h : ∀ j, j < 7 → m j = m' j) (o : okm N m') : okm N m := by
  obtain ⟨k, r, s, e, o1, o2, o3, o4, o5, o6, o7, o8, o9, o10, o11, o12⟩ := o
  refine ⟨k, r, s, e, o1, o2, o3, o4, ?_, ?_, ?_, ?_, ?_, fun h5 => ?_, o11, fun h0 => ⟨(o12 h0).1, ?_⟩⟩
  · rw [h 0 (by decide)]; exact o5
  · rw [h 1 (by decide)]; exact o6
  · rw [h 2 (by decide)]; exact o7
  · rw [h 3 (by decide)]; exact o8
  · rw [h 6 (by decide)]; exact o9
  · rw [h 4 (by decide)]; exact o10 h5
  · rw [h 5 (by decide)]; exact (o12 h0).2
theorem send_ok {N : Nat} {K : Nat → Nat × Nat} {I J : Nat → Nat → Int32} {cnt t : Nat} {h : Nat → Nat} (hK : kX N K) (hN : N ≤ 5) (hM : pM J) (hC : pC N I J cnt t h) {x1 x2 x3 x4 x5 x6 x7 : Int32} (hm : okm N (mf x1 x2 x3 x4 x5 x6 x7)) :
    ∃ I' J' cnt', fn_CH_send K I (2 + 3 * N) x1 x2 x3 x4 x5 x6 x7 = some I' ∧ fn_MD_send (fw_k LMl) J 0 x1 x2 x3 x4 x5 x6 x7 = some J' ∧ pC N I' J' cnt' t h ∧ frS N t I I' J J' := by
  obtain ⟨c1, c2, c3, c4, c5, c6, c7, c8, c9⟩ := hC
  by_cases h20 : cnt = 20
  · subst h20
    refine ⟨I, J, 20, ?_, ?_, ⟨c1, c2, c3, c4, c5, c6, c7, c8, c9⟩, frS.rf⟩
    · unfold fn_CH_send
      rw [c5, if_neg (show ¬ nI 20 < (20 : Int32) from nnlt (a := 20) (b := 20) (by omega) (by omega))]
    · unfold fn_MD_send
      rw [c6, if_pos (show nI 20 = (20 : Int32) from rfl)]
  · have hc : cnt < 20 := by omega
    obtain ⟨d1, d2, d3⟩ := c7 cnt hc
    have e1 : fn_CH_send K I (2 + 3 * N) x1 x2 x3 x4 x5 x6 x7 = some (fw_up2 (wm I (4 + 3 * N + h cnt) x1 x2 x3 x4 x5 x6 x7) (2 + 3 * N) 2 (nI (cnt + 1))) := by
      have e0 : wm I (4 + 3 * N + h cnt) x1 x2 x3 x4 x5 x6 x7 (2 + 3 * N) 2 + 1 = nI (cnt + 1) := by
        rw [wm_ne (by omega), c5, na1]
      unfold fn_CH_send
      rw [if_pos (by rw [c5]; exact nlt (a := cnt) (b := 20) hc (by omega)), ld_eq c3 (by omega) (by rw [hK.2.2.2.2.1]), gd_eq (ix_eq c5 (by rw [hK.2.2.2.2.1]; exact hc) (by omega)), c5, ncl (by omega), ld_eq d1 (by omega) (hK.2.2.2.2.2.1 _ d2)]
      show some (fw_up2 (wm I (4 + 3 * N + h cnt) x1 x2 x3 x4 x5 x6 x7) (2 + 3 * N) 2 (wm I (4 + 3 * N + h cnt) x1 x2 x3 x4 x5 x6 x7 (2 + 3 * N) 2 + 1)) = _
      rw [e0]
    have e2 : fn_MD_send (fw_k LMl) J 0 x1 x2 x3 x4 x5 x6 x7 = some (fw_up2 (wq J cnt x1 x2 x3 x4 x5 x6 x7) 0 12 (nI (cnt + 1))) := by
      have r0 : ∀ (J' : Nat → Nat → Int32) (p : Nat) (x : Int32), fw_up2 J' 6 p x 0 = J' 0 := fun J' p x => up_row (by decide)
      have hne : ¬ nI cnt = (20 : Int32) := fun hh => h20 ((neq (a := cnt) (b := 20) (by omega) (by omega)).mp hh)
      have z : ∀ j, j < 7 → (nI (7 * cnt + j)).toNatClampNeg = 7 * cnt + j := fun j hj => ncl (by omega)
      have g : ∀ j, j < 7 → fw_ix (nI (7 * cnt + j)) (fw_k LMl 6).2 = true := fun j hj => ix_eq rfl (show 7 * cnt + j < 140 by omega) (by omega)
      have z0 : (nI (7 * cnt)).toNatClampNeg = 7 * cnt := ncl (by omega)
      have g0 : fw_ix (nI (7 * cnt)) (fw_k LMl 6).2 = true := ix_eq rfl (show 7 * cnt < 140 by omega) (by omega)
      simp only [fn_MD_send, c6, if_neg hne, let_eq, n7, na1, na2, na3, na4, na5, na6, m_fly hM, r0, z0, g0, z 1 (by decide), z 2 (by decide), z 3 (by decide), z 4 (by decide), z 5 (by decide), z 6 (by decide), g 1 (by decide), g 2 (by decide), g 3 (by decide), g 4 (by decide), g 5 (by decide), g 6 (by decide), gd_t]
      rfl
    refine ⟨_, _, cnt + 1, e1, e2, ⟨by omega, c2, ?_, ?_, ?_, ?_, fun i hi => ?_, c8, fun i hi => ?_⟩, fun k hk => ?_, ?_, fun k h1 h2 => ?_, fun j hj => ?_⟩
    · rw [up_ap, if_neg (by omega), wm_ne (by omega), c3]
    · rw [up_ap, if_neg (by omega), wm_ne (by omega), c4]
    · rw [up_ap, if_pos ⟨rfl, rfl⟩]
    · rw [up_ap, if_pos ⟨rfl, rfl⟩]
    · rw [up_row (by omega), wm_ne (by omega)]
      exact c7 i hi
    · by_cases hi2 : i = cnt
      · subst hi2
        have e3 : ∀ j, j < 7 → fw_up2 (wq J i x1 x2 x3 x4 x5 x6 x7) 0 12 (nI (i + 1)) 6 (7 * i + j) = mf x1 x2 x3 x4 x5 x6 x7 j := fun j hj => by rw [up_row (by decide), wq_at hj]
        refine ⟨fun j hj => ?_, okm_of e3 hm⟩
        rw [up_row (by omega), wm_at hj, e3 j hj]
      · have hi3 : i < cnt := by omega
        obtain ⟨q1, q2⟩ := c9 i hi3
        have hne : h i ≠ h cnt := fun hh => hi2 (c8 i cnt (by omega) hc hh)
        have e3 : ∀ j, j < 7 → fw_up2 (wq J cnt x1 x2 x3 x4 x5 x6 x7) 0 12 (nI (cnt + 1)) 6 (7 * i + j) = J 6 (7 * i + j) := fun j hj => by rw [up_row (by decide), wq_ne (by omega)]
        refine ⟨fun j hj => ?_, okm_of e3 q2⟩
        rw [up_row (by omega), wm_ne (by omega), e3 j hj]
        exact q1 j hj
    · rw [up_row (by omega), wm_ne (by omega)]
    · rw [up_row (by omega), wm_ne (by omega)]
    · rw [up_row h1]
      funext p
      exact wq_ne (Or.inl h2)
    · rw [up_ap, if_neg (by omega), wq_ne (Or.inl (by decide))]
