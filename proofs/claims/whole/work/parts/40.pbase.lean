/-! the pure part: evaluation of the printed functions -/
theorem ld_eq {ρ : Type} {K : Nat → Nat × Nat} {x : Int32} {k c : Nat} {f : Nat → Option ρ} (hx : x = nI k) (hk : k < 1000) (hc : (K k).1 = c) : fw_ld K x c f = f k := by
  subst hx
  unfold fw_ld
  rw [nI_clamp (by omega), if_pos ⟨nI_pos (by omega), hc⟩]
theorem gd_eq {ρ : Type} {b : Bool} {x : Option ρ} (h : b = true) : fw_gd b x = x := if_pos h
theorem ix_eq {x : Int32} {i n : Nat} (hx : x = nI i) (h : i < n) (hn : i < 1000) : fw_ix x n = true := by
  subst hx
  unfold fw_ix
  rw [nI_toInt (by omega)]
  exact decide_eq_true ⟨by omega, by omega⟩
theorem let_eq {α ρ : Type} {a : α} {f : α → Option ρ} : fw_let a f = f a := rfl
theorem bd_eq {α β ρ : Type} {q : Option (α × β)} {f : α → β → Option ρ} {a : α} {b : β} (h : q = some (a, b)) : fw_bd q f = f a b := by
  subst h
  rfl
theorem bv_eq {β ρ : Type} {q : Option β} {f : β → Option ρ} {b : β} (h : q = some b) : fw_bv q f = f b := by
  subst h
  rfl
theorem up_ap (I : Nat → Nat → Int32) (k j : Nat) (x : Int32) (k' j' : Nat) : fw_up2 I k j x k' j' = if k' = k ∧ j' = j then x else I k' j' := by
  by_cases h : k' = k ∧ j' = j
  · rw [if_pos h, h.1, h.2, fw_up2_eq]
  · rw [if_neg h]
    by_cases hk : k' = k
    · rw [fw_up2_j _ _ (fun hj => h ⟨hk, hj⟩)]
    · rw [fw_up2_k _ _ hk]
theorem up_row {I : Nat → Nat → Int32} {k j k' : Nat} {x : Int32} (h : k' ≠ k) : fw_up2 I k j x k' = I k' := fw_up2_k I x h
/-! sets of stores as bits -/
def pb (b s : Nat) : Int32 := if b.testBit s = true then 1 else 0
def pc5 (b : Nat) : Nat := (b.testBit 0).toNat + (b.testBit 1).toNat + (b.testBit 2).toNat + (b.testBit 3).toNat + (b.testBit 4).toNat
theorem bit_or : ∀ b, b < 32 → ∀ s, s < 5 → nI b ||| ((1 : Int32) <<< (nI s &&& 31)) = nI (b ||| 2 ^ s) := by decide +kernel
theorem bit_lt : ∀ N, N < 6 → ∀ b, b < 2 ^ N → ∀ s, s < N → b ||| 2 ^ s < 2 ^ N := by decide +kernel
theorem bit_t : ∀ b, b < 32 → ∀ s, s < 5 → ∀ t, t < 5 → (b ||| 2 ^ s).testBit t = (decide (t = s) || b.testBit t) := by decide +kernel
theorem bit_tst : ∀ b, b < 32 → ∀ s, s < 5 → ((nI b &&& ((1 : Int32) <<< (nI s &&& 31)) = 0) ↔ b.testBit s = false) := by decide +kernel
theorem bit_hi : ∀ N, N < 6 → ∀ b, b < 2 ^ N → ∀ s, s < 5 → N ≤ s → b.testBit s = false := by decide +kernel
theorem bc_val : ∀ b, b < 32 → (fn_JI_bitCount (fun _ => (0, 0)) (fun _ _ => 0) (nI b)).map Prod.fst = some (nI (pc5 b)) := by decide +kernel
theorem bc_eq {K : Nat → Nat × Nat} {I : Nat → Nat → Int32} {x : Int32} {b : Nat} (hx : x = nI b) (hb : b < 32) : fn_JI_bitCount K I x = some (nI (pc5 b), I) := by
  subst hx
  have h := bc_val b hb
  unfold fn_JI_bitCount at h ⊢
  rw [Option.map_some] at h
  have h1 := Option.some.inj h
  dsimp only at h1
  rw [h1]
theorem pc5_lt : ∀ b, b < 32 → pc5 b ≤ 5 := by decide +kernel
theorem set_m : ∀ x, x < 40 → ∀ N, N < 6 → 0 < N → nI x - nI x / nI N * nI N = nI (x % N) := by decide +kernel
theorem sub_1 (a : Nat) : nI (a + 1) - 1 = nI a := by
  rw [← nI_1]
  exact Int32.add_sub_cancel _ _
theorem add_1 (a : Nat) : nI a - 1 + 1 = nI a := Int32.sub_add_cancel _ _
theorem nI_mul (a b : Nat) : nI a * nI b = nI (a * b) := (Int32.ofNat_mul a b).symm
theorem n7 (a : Nat) : (7 : Int32) * nI a = nI (7 * a) := nI_mul 7 a
theorem n20 (a : Nat) : (20 : Int32) * nI a = nI (20 * a) := nI_mul 20 a
theorem n5 (a : Nat) : (5 : Int32) * nI a = nI (5 * a) := nI_mul 5 a
theorem na1 (a : Nat) : nI a + 1 = nI (a + 1) := nI_add a 1
theorem na0 (a : Nat) : nI a + 0 = nI a := nI_add a 0
theorem na2 (a : Nat) : nI a + 2 = nI (a + 2) := nI_add a 2
theorem na3 (a : Nat) : nI a + 3 = nI (a + 3) := nI_add a 3
theorem na4 (a : Nat) : nI a + 4 = nI (a + 4) := nI_add a 4
theorem na5 (a : Nat) : nI a + 5 = nI (a + 5) := nI_add a 5
theorem na6 (a : Nat) : nI a + 6 = nI (a + 6) := nI_add a 6
theorem na7 (a : Nat) : nI a + 7 = nI (a + 7) := nI_add a 7
theorem nle {a b : Nat} (h : a ≤ b) (hb : b < 1000) : nI a ≤ nI b := nI_le h (by omega)
theorem nnle {a b : Nat} (h : b < a) (hb : a < 1000) : ¬ nI a ≤ nI b := nI_ge h (by omega)
theorem nlt {a b : Nat} (h : a < b) (hb : b < 1000) : nI a < nI b := nI_lt h (by omega)
theorem nnlt {a b : Nat} (h : b ≤ a) (hb : a < 1000) : ¬ nI a < nI b := nI_nlt h (by omega)
theorem neq {a b : Nat} (ha : a < 1000) (hb : b < 1000) : nI a = nI b ↔ a = b := nI_eq (by omega) (by omega)
theorem ncl {a : Nat} (h : a < 1000) : (nI a).toNatClampNeg = a := nI_clamp (by omega)
