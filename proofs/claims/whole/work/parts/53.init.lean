/-! the start: what the constructors leave -/
def fX (N W Q : Nat) (I : Nat → Nat → Int32) : Prop := (I 0 0 = nI N ∧ I 0 1 = nI W ∧ I 0 2 = nI Q ∧ I 0 3 = nI 1 ∧ I 0 4 = nI (2 + 3 * N) ∧ I 0 5 = nI (25 + 3 * N) ∧ I 0 6 = nI (28 + 3 * N) ∧ I 0 7 = 0 ∧ I 0 8 = 0 ∧ I 0 9 = -1) ∧ (∀ s, s < N → I 1 s = nI (2 + 3 * s) ∧ I (2 + 3 * s) 0 = nI (3 + 3 * s) ∧ I (2 + 3 * s) 1 = nI (4 + 3 * s) ∧ I (2 + 3 * s) 2 = 1 ∧ I (2 + 3 * s) 3 = 0 ∧ I (2 + 3 * s) 4 = -1 ∧ I (2 + 3 * s) 5 = 0 ∧ ∀ e, e < 20 → I (3 + 3 * s) e = 0 ∧ I (4 + 3 * s) e = 0) ∧ (I (2 + 3 * N) 0 = nI (3 + 3 * N) ∧ I (2 + 3 * N) 1 = nI (4 + 3 * N) ∧ I (2 + 3 * N) 2 = 0) ∧ (∀ i, i < 20 → I (3 + 3 * N) i = nI (4 + 3 * N + (i + 1))) ∧ (I (25 + 3 * N) 0 = nI (26 + 3 * N) ∧ I (25 + 3 * N) 1 = nI (27 + 3 * N) ∧ I (25 + 3 * N) 2 = 0 ∧ I (25 + 3 * N) 3 = 0 ∧ I (25 + 3 * N) 4 = -1) ∧ (∀ e, e < 20 → I (26 + 3 * N) e = 0 ∧ I (27 + 3 * N) e = 0) ∧ ∀ r, r < 2 → I (28 + 3 * N) r = nI (29 + 3 * N + r) ∧ I (29 + 3 * N + r) 0 = nI (r + 1) ∧ I (29 + 3 * N + r) 1 = 0 ∧ I (29 + 3 * N + r) 2 = 0 ∧ I (29 + 3 * N + r) 3 = 0 ∧ I (29 + 3 * N + r) 4 = 0 ∧ I (29 + 3 * N + r) 5 = -1 ∧ I (29 + 3 * N + r) 6 = 0
def dX (N W Q : Nat) (I : Nat → Nat → Int32) : Decidable (fX N W Q I) := by unfold fX; infer_instance
def dK (N : Nat) (K : Nat → Nat × Nat) : Decidable (kX N K) := by unfold kX; infer_instance
def ckX (N W Q : Nat) : Bool := match fnc_FL_init 1 [(5, 0)] (va_up (fun _ _ => 0) 0 (fw_d 5)) 0 (nI N) (nI W) (nI Q) with
  | some (L, I) => @decide (kX N (fw_k L)) (dK N (fw_k L)) && @decide (fX N W Q I) (dX N W Q I)
  | none => false
theorem ckX_ok : ∀ N, N < 6 → ∀ W, W < 6 → ∀ Q, Q < 6 → (if 3 ≤ N ∧ 2 ≤ W ∧ W ≤ N ∧ 1 ≤ Q ∧ Q ≤ W then ckX N W Q else true) = true := by decide +kernel
def fM (N W Q : Nat) (J : Nat → Nat → Int32) : Prop := (J 0 4 = nI 1 ∧ J 0 5 = nI 2 ∧ J 0 6 = nI 3 ∧ J 0 7 = nI 4 ∧ J 0 8 = nI 5 ∧ J 0 13 = nI 6 ∧ J 0 17 = nI 7 ∧ J 0 18 = nI 8 ∧ J 0 19 = nI 9 ∧ J 0 20 = nI 10 ∧ J 0 21 = nI 11 ∧ J 0 22 = nI 12 ∧ J 0 23 = nI 13 ∧ J 0 24 = nI 14) ∧ (J 0 1 = nI N ∧ J 0 2 = nI W ∧ J 0 3 = nI Q ∧ J 0 9 = 0 ∧ J 0 10 = 0 ∧ J 0 11 = -1 ∧ J 0 12 = 0 ∧ J 0 14 = 0 ∧ J 0 15 = 0 ∧ J 0 16 = -1) ∧ (∀ s, s < 5 → J 1 s = 0 ∧ J 2 s = 0 ∧ J 3 s = -1) ∧ (∀ p, p < 100 → J 4 p = 0 ∧ J 5 p = 0 ∧ J 8 p = 0) ∧ (∀ e, e < 20 → J 7 e = 0) ∧ (∀ r, r < 2 → J 9 (r + 1) = 0 ∧ J 10 (r + 1) = 0 ∧ J 11 (r + 1) = 0 ∧ J 12 (r + 1) = -1 ∧ J 13 (r + 1) = 0) ∧ ∀ p, p < 15 → J 14 p = 0
def dM (N W Q : Nat) (J : Nat → Nat → Int32) : Decidable (fM N W Q J) := by unfold fM; infer_instance
def ckM (N W Q : Nat) : Bool := match fnc_MD_init 1 [(6, 0)] (va_up (fun _ _ => 0) 0 (fw_d 6)) 0 (nI N) (nI W) (nI Q) with
  | some (L, J) => decide (L = LMl) && @decide (fM N W Q J) (dM N W Q J)
  | none => false
theorem ckM_ok : ∀ N, N < 6 → ∀ W, W < 6 → ∀ Q, Q < 6 → (if 3 ≤ N ∧ 2 ≤ W ∧ W ≤ N ∧ 1 ≤ Q ∧ Q ≤ W then ckM N W Q else true) = true := by decide +kernel
theorem cnt_0 {g : Nat → Int32} : ∀ n, (∀ e, e < n → g e = 0) → cntK g n = 0 := by
  intro n
  induction n with
  | zero => intro _; rfl
  | succ n ih =>
    intro h
    rw [cntK, ih (fun e he => h e (by omega)), if_pos (h n (by omega))]
theorem pb_z (s : Nat) : pb 0 s = 0 := by
  unfold pb
  rw [Nat.zero_testBit]
  rfl
theorem rel_0 {N W Q : Nat} (hz : sz N W Q) {I J : Nat → Nat → Int32} (hX : fX N W Q I) (hM : fM N W Q J) : Rel N W Q I J := by
  obtain ⟨z1, z2, z3, z4, z5, z6⟩ := hz
  obtain ⟨⟨a0, a1, a2, a3, a4, a5, a6, a7, a8, a9⟩, xs, ⟨c0, c1, c2⟩, xc, ⟨w0, w1, w2, w3, w4⟩, xw, xr⟩ := hX
  obtain ⟨hp, ⟨m1, m2, m3, m9, m10, m11, m12, m14, m15, m16⟩, ys, yk, yw, yr, ya⟩ := hM
  have k0 : mk (-1 : Int32) := ⟨0, by omega, rfl⟩
  have p2 : 0 < 2 ^ N := Nat.pow_pos (by decide)
  refine ⟨⟨hp, ⟨a0, a1, a2, a3, a4, a5, a6, m1, m2, m3, a7.trans m9.symm, a8.trans m10.symm, a9.trans m11.symm, by rw [a9]; exact k0⟩, fun s hs => ?_, ⟨w0, w1, w2.trans m14.symm, ⟨0, 0, by omega, by omega, w3, m15, w4, m16⟩, fun e he => ?_⟩, fun r hr => ?_⟩, 0, 0, fun i => i + 1, ?_⟩
  · obtain ⟨s1, s2, s3, s4, s5, s6, s7, s8⟩ := xs s hs
    obtain ⟨t1, t2, t3⟩ := ys s (by omega)
    refine ⟨s1, s2, s3, Or.inl ⟨s4, t1⟩, s5.trans t2.symm, Or.inl t2, s6.trans t3.symm, by rw [t3]; exact k0, ?_, fun e he => ?_⟩
    · rw [cnt_0 20 (fun e he => (s8 e he).1)]
      exact s7
    · obtain ⟨u1, u2, u3⟩ := yk (20 * s + e) (by omega)
      exact ⟨(s8 e he).1.trans u1.symm, Or.inl u1, (s8 e he).2.trans u2.symm⟩
  · refine ⟨(xw e he).1.trans (yw e he).symm, 0, p2, (xw e he).2, fun s hs => ?_⟩
    rw [pb_z]
    exact (yk (20 * s + e) (by omega)).2.2
  · obtain ⟨r0, r1, r2, r3, r4, r5, r6, r7⟩ := xr r hr
    obtain ⟨u1, u2, u3, u4, u5⟩ := yr r hr
    refine ⟨r0, r1, r2.trans u1.symm, ⟨0, by omega, u1⟩, r3.trans u2.symm, r4.trans u3.symm, ⟨0, by omega, u3⟩, ⟨0, p2, r5, fun s hs => ?_⟩, r6.trans u4.symm, by rw [u4]; exact k0, r7.trans u5.symm⟩
    rw [pb_z]
    exact ya _ (by omega)
  · exact ⟨by omega, by omega, c0, c1, c2, m12, fun i hi => ⟨xc i hi, (by show i + 1 < 21; omega), (by show i + 1 ≠ 0; omega)⟩, fun i j _ _ q => (by have q' : i + 1 = j + 1 := q; omega), fun i hi => absurd hi (by omega)⟩
/-! the three sizes -/
theorem near_ok (v : Int32) {lo hi : Nat} (h : lo ≤ hi) (hh : hi < 1000) : ∃ n, lo ≤ n ∧ n ≤ hi ∧ (∀ K I, fn_FL_nearest K I v (nI lo) (nI hi) = some (nI n, I)) ∧ ∀ {β : Type} (f : Int32 → β), (if nI lo ≤ v then (if v ≤ nI hi then f v else f (nI hi)) else f (nI lo)) = f (nI n) := by
  unfold fn_FL_nearest
  by_cases h1 : nI lo ≤ v
  · by_cases h2 : v ≤ nI hi
    · have h3 := h1
      have h4 := h2
      rw [Int32.le_iff_toInt_le, nI_toInt (by omega)] at h3
      rw [Int32.le_iff_toInt_le, nI_toInt (by omega)] at h4
      have hv : v = nI v.toInt.toNat := by
        apply Int32.toInt_inj.mp
        rw [nI_toInt (by omega)]
        omega
      refine ⟨v.toInt.toNat, by omega, by omega, fun K I => ?_, fun f => by rw [if_pos h1, if_pos h2, ← hv]⟩
      rw [← hv]
      by_cases h5 : v < nI hi
      · rw [if_pos h5]
        by_cases h6 : nI lo < v
        · rw [if_pos h6]
        · rw [if_neg h6]
          have h7 := h6
          rw [Int32.lt_iff_toInt_lt, nI_toInt (by omega)] at h7
          have h8 : nI lo = v := Int32.toInt_inj.mp (by rw [nI_toInt (by omega)]; omega)
          rw [h8]
      · have h7 := h5
        rw [Int32.lt_iff_toInt_lt, nI_toInt (by omega)] at h7
        have h8 : nI hi = v := Int32.toInt_inj.mp (by rw [nI_toInt (by omega)]; omega)
        rw [if_neg h5, h8]
        by_cases h6 : nI lo < v
        · rw [if_pos h6]
        · rw [if_neg h6]
          have h7 := h6
          rw [Int32.lt_iff_toInt_lt, nI_toInt (by omega)] at h7
          have h8 : nI lo = v := Int32.toInt_inj.mp (by rw [nI_toInt (by omega)]; omega)
          rw [h8]
    · refine ⟨hi, h, Nat.le_refl _, fun K I => ?_, fun f => by rw [if_pos h1, if_neg h2]⟩
      have h3 : ¬ v < nI hi := fun q => h2 (Int32.le_iff_toInt_le.mpr (by have := Int32.lt_iff_toInt_lt.mp q; omega))
      rw [if_neg h3]
      by_cases h6 : nI lo < nI hi
      · rw [if_pos h6]
      · rw [if_neg h6]
        have h7 := h6
        rw [Int32.lt_iff_toInt_lt, nI_toInt (by omega), nI_toInt (by omega)] at h7
        have h8 : lo = hi := by omega
        rw [h8]
  · refine ⟨lo, Nat.le_refl _, h, fun K I => ?_, fun f => by rw [if_neg h1]⟩
    have h3 := h1
    rw [Int32.le_iff_toInt_le, nI_toInt (by omega)] at h3
    have h4 : v < nI hi := Int32.lt_iff_toInt_lt.mpr (by rw [nI_toInt (by omega)]; omega)
    rw [if_pos h4, if_neg (fun q => by have := Int32.lt_iff_toInt_lt.mp q; rw [nI_toInt (by omega)] at this; omega)]
theorem fl_eq {x1 x2 x3 y1 y2 y3 n w q : Int32} (a1 : ∀ K I, fn_FL_nearest K I x1 3 5 = some (n, I)) (a2 : ∀ K I, fn_FL_nearest K I x2 2 n = some (w, I)) (a3 : ∀ K I, fn_FL_nearest K I x3 1 w = some (q, I)) (b1 : ∀ K I, fn_FL_nearest K I y1 3 5 = some (n, I)) (b2 : ∀ K I, fn_FL_nearest K I y2 2 n = some (w, I)) (b3 : ∀ K I, fn_FL_nearest K I y3 1 w = some (q, I)) (I : Nat → Nat → Int32) : fnc_FL_init 1 [(5, 0)] I 0 x1 x2 x3 = fnc_FL_init 1 [(5, 0)] I 0 y1 y2 y3 := by
  unfold fnc_FL_init
  rw [bd_eq (a1 _ _), bd_eq (b1 _ _)]
  show fw_gd _ (fw_gd _ (fw_bd (fn_FL_nearest _ (fw_up2 I 0 0 n) x2 2 (fw_up2 I 0 0 n 0 0)) _)) = fw_gd _ (fw_gd _ (fw_bd (fn_FL_nearest _ (fw_up2 I 0 0 n) y2 2 (fw_up2 I 0 0 n 0 0)) _))
  rw [up_at, bd_eq (a2 _ _), bd_eq (b2 _ _)]
  show fw_gd _ (fw_gd _ (fw_gd _ (fw_bd (fn_FL_nearest _ (fw_up2 (fw_up2 I 0 0 n) 0 1 w) x3 1 (fw_up2 (fw_up2 I 0 0 n) 0 1 w 0 1)) _))) = fw_gd _ (fw_gd _ (fw_gd _ (fw_bd (fn_FL_nearest _ (fw_up2 (fw_up2 I 0 0 n) 0 1 w) y3 1 (fw_up2 (fw_up2 I 0 0 n) 0 1 w 0 1)) _)))
  rw [up_at, bd_eq (a3 _ _), bd_eq (b3 _ _)]
theorem md_139 {N W Q : Nat} {x2 x3 : Int32} {L : List (Nat × Nat)} {I : Nat → Nat → Int32} (a2 : ∀ {β : Type} (f : Int32 → β), (if nI 2 ≤ x2 then (if x2 ≤ nI N then f x2 else f (nI N)) else f (nI 2)) = f (nI W)) (a3 : ∀ {β : Type} (f : Int32 → β), (if nI 1 ≤ x3 then (if x3 ≤ nI W then f x3 else f (nI W)) else f (nI 1)) = f (nI Q)) : fnc_MD_init_139 1 L I 0 x2 x3 (nI N) = fnc_MD_init_197 1 L (fw_up2 (fw_up2 I 0 1 (nI N)) 0 2 (nI W)) 0 (nI Q) := by
  unfold fnc_MD_init_139
  rw [let_eq, up_at]
  refine (a2 (fun y => fnc_MD_init_168 1 L (fw_up2 I 0 1 (nI N)) 0 x3 y)).trans ?_
  show fnc_MD_init_168 1 L (fw_up2 I 0 1 (nI N)) 0 x3 (nI W) = _
  unfold fnc_MD_init_168
  rw [let_eq, up_at]
  exact a3 (fun y => fnc_MD_init_197 1 L (fw_up2 (fw_up2 I 0 1 (nI N)) 0 2 (nI W)) 0 y)
theorem md_eq {N W Q : Nat} {x1 x2 x3 y1 y2 y3 : Int32} (a1 : ∀ {β : Type} (f : Int32 → β), (if nI 3 ≤ x1 then (if x1 ≤ nI 5 then f x1 else f (nI 5)) else f (nI 3)) = f (nI N)) (a2 : ∀ {β : Type} (f : Int32 → β), (if nI 2 ≤ x2 then (if x2 ≤ nI N then f x2 else f (nI N)) else f (nI 2)) = f (nI W)) (a3 : ∀ {β : Type} (f : Int32 → β), (if nI 1 ≤ x3 then (if x3 ≤ nI W then f x3 else f (nI W)) else f (nI 1)) = f (nI Q)) (b1 : ∀ {β : Type} (f : Int32 → β), (if nI 3 ≤ y1 then (if y1 ≤ nI 5 then f y1 else f (nI 5)) else f (nI 3)) = f (nI N)) (b2 : ∀ {β : Type} (f : Int32 → β), (if nI 2 ≤ y2 then (if y2 ≤ nI N then f y2 else f (nI N)) else f (nI 2)) = f (nI W)) (b3 : ∀ {β : Type} (f : Int32 → β), (if nI 1 ≤ y3 then (if y3 ≤ nI W then f y3 else f (nI W)) else f (nI 1)) = f (nI Q)) (I : Nat → Nat → Int32) : fnc_MD_init 1 [(6, 0)] I 0 x1 x2 x3 = fnc_MD_init 1 [(6, 0)] I 0 y1 y2 y3 := by
  have h1 : ∀ (L : List (Nat × Nat)) (J : Nat → Nat → Int32), (if (3 : Int32) ≤ x1 then if x1 ≤ (5 : Int32) then fnc_MD_init_139 1 L J 0 x2 x3 x1 else fnc_MD_init_139 1 L J 0 x2 x3 (5 : Int32) else fnc_MD_init_139 1 L J 0 x2 x3 (3 : Int32)) = fnc_MD_init_197 1 L (fw_up2 (fw_up2 J 0 1 (nI N)) 0 2 (nI W)) 0 (nI Q) := fun L J => (a1 (fun y => fnc_MD_init_139 1 L J 0 x2 x3 y)).trans (md_139 a2 a3)
  have h2 : ∀ (L : List (Nat × Nat)) (J : Nat → Nat → Int32), (if (3 : Int32) ≤ y1 then if y1 ≤ (5 : Int32) then fnc_MD_init_139 1 L J 0 y2 y3 y1 else fnc_MD_init_139 1 L J 0 y2 y3 (5 : Int32) else fnc_MD_init_139 1 L J 0 y2 y3 (3 : Int32)) = fnc_MD_init_197 1 L (fw_up2 (fw_up2 J 0 1 (nI N)) 0 2 (nI W)) 0 (nI Q) := fun L J => (b1 (fun y => fnc_MD_init_139 1 L J 0 y2 y3 y)).trans (md_139 b2 b3)
  unfold fnc_MD_init
  simp only [h1, h2]
theorem lw_pure_ok : lw_pure := by
  intro x1 x2 x3
  obtain ⟨N, n1, n2, n3, n4⟩ := near_ok x1 (lo := 3) (hi := 5) (by omega) (by omega)
  obtain ⟨W, w1, w2, w3, w4⟩ := near_ok x2 (lo := 2) (hi := N) (by omega) (by omega)
  obtain ⟨Q, q1, q2, q3, q4⟩ := near_ok x3 (lo := 1) (hi := W) (by omega) (by omega)
  have hz : sz N W Q := ⟨n1, n2, w1, w2, q1, q2⟩
  have self : ∀ {lo n hi : Nat}, lo ≤ n → n ≤ hi → hi < 1000 → (∀ K I, fn_FL_nearest K I (nI n) (nI lo) (nI hi) = some (nI n, I)) ∧ ∀ {β : Type} (f : Int32 → β), (if nI lo ≤ nI n then (if nI n ≤ nI hi then f (nI n) else f (nI hi)) else f (nI lo)) = f (nI n) := by
    intro lo n hi e1 e2 e3
    have g1 : nI lo ≤ nI n := nle e1 (by omega)
    have g2 : nI n ≤ nI hi := nle e2 (by omega)
    obtain ⟨m, -, -, m3, m4⟩ := near_ok (nI n) (lo := lo) (hi := hi) (by omega) e3
    have q := m4 (fun y => y)
    rw [if_pos g1, if_pos g2] at q
    refine ⟨fun K I => by rw [m3 K I, ← q], fun f => by rw [if_pos g1, if_pos g2]⟩
  obtain ⟨sn1, sn2⟩ := self n1 n2 (by omega)
  obtain ⟨sw1, sw2⟩ := self w1 w2 (by omega)
  obtain ⟨sq1, sq2⟩ := self q1 q2 (by omega)
  have eX := fl_eq n3 w3 q3 sn1 sw1 sq1 (va_up (fun _ _ => 0) 0 (fw_d 5))
  have eM := md_eq n4 w4 q4 sn2 sw2 sq2 (va_up (fun _ _ => 0) 0 (fw_d 6))
  have cX := ckX_ok N (by omega) W (by omega) Q (by omega)
  rw [if_pos ⟨n1, w1, w2, q1, q2⟩] at cX
  have cM := ckM_ok N (by omega) W (by omega) Q (by omega)
  rw [if_pos ⟨n1, w1, w2, q1, q2⟩] at cM
  unfold ckX at cX
  unfold ckM at cM
  rw [eX, eM]
  cases hX : fnc_FL_init 1 [(5, 0)] (va_up (fun _ _ => 0) 0 (fw_d 5)) 0 (nI N) (nI W) (nI Q) with
  | none => rw [hX] at cX; exact absurd (show false = true from cX) (by decide)
  | some px =>
    cases hM : fnc_MD_init 1 [(6, 0)] (va_up (fun _ _ => 0) 0 (fw_d 6)) 0 (nI N) (nI W) (nI Q) with
    | none => rw [hM] at cM; exact absurd (show false = true from cM) (by decide)
    | some pm =>
      obtain ⟨LX, IX⟩ := px
      obtain ⟨LM, JM⟩ := pm
      rw [hX] at cX
      rw [hM] at cM
      have cX' := (Bool.and_eq_true _ _).mp cX
      have cM' := (Bool.and_eq_true _ _).mp cM
      have kx : kX N (fw_k LX) := @of_decide_eq_true _ (dK N (fw_k LX)) cX'.1
      have fx : fX N W Q IX := @of_decide_eq_true _ (dX N W Q IX) cX'.2
      have lm : LM = LMl := of_decide_eq_true cM'.1
      have fm : fM N W Q JM := @of_decide_eq_true _ (dM N W Q JM) cM'.2
      subst lm
      exact ⟨LX, IX, LMl, JM, Rel N W Q, rfl, rfl, ops_ok hz kx, rel_0 hz fx fm, kx.1, rfl⟩
