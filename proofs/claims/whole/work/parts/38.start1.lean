theorem wt_1_34 : (Jvm.Cond.arrayOver (Jvm.ClassFile.FieldType.object "FencedLedger$Store")) ∈ lw_tbl := fw_in1 (List.mem_of_getElem? (l := tables_1_1) (i := 34) rfl)
theorem wt_1_64 : (Jvm.Cond.arrayClass Jvm.ClassFile.FieldType.boolean) ∈ lw_tbl := fw_in1 (List.mem_of_getElem? (l := tables_1_1) (i := 64) rfl)
theorem wt_1_65 : (Jvm.Cond.arrayClass Jvm.ClassFile.FieldType.int) ∈ lw_tbl := fw_in1 (List.mem_of_getElem? (l := tables_1_1) (i := 65) rfl)
theorem wt_1_73 : (Jvm.Cond.arrayOver (Jvm.ClassFile.FieldType.object "FencedLedger$Message")) ∈ lw_tbl := fw_in1 (List.mem_of_getElem? (l := tables_1_1) (i := 73) rfl)
theorem wt_1_158 : (Jvm.Cond.arrayOver (Jvm.ClassFile.FieldType.object "FencedLedger$Recoverer")) ∈ lw_tbl := fw_in1 (List.mem_of_getElem? (l := tables_1_1) (i := 158) rfl)
theorem wt_3_15 : (Jvm.Cond.laysStatic "java/lang/Throwable" "UNASSIGNED_STACK" "[Ljava/lang/StackTraceElement;") ∈ lw_tbl := fw_in3 (List.mem_of_getElem? (l := tables_1_3) (i := 15) rfl)
theorem wt_3_17 : (Jvm.Cond.laysStatic "java/lang/Throwable" "SUPPRESSED_SENTINEL" "Ljava/util/List;") ∈ lw_tbl := fw_in3 (List.mem_of_getElem? (l := tables_1_3) (i := 17) rfl)
theorem wt_3_29 : (Jvm.Cond.stringRef "FencedLedger" (67 : Nat) "the writer is not writing") ∈ lw_tbl := fw_in3 (List.mem_of_getElem? (l := tables_1_3) (i := 29) rfl)
theorem wt_3_69 : (Jvm.Cond.stringRef "FencedLedger" (78 : Nat) "too many entries") ∈ lw_tbl := fw_in3 (List.mem_of_getElem? (l := tables_1_3) (i := 69) rfl)
theorem wt_3_88 : (Jvm.Cond.stringRef "FencedLedger" (173 : Nat) "the ledger is not closed") ∈ lw_tbl := fw_in3 (List.mem_of_getElem? (l := tables_1_3) (i := 88) rfl)
theorem wt_3_89 : (Jvm.Cond.stringRef "FencedLedger" (175 : Nat) "no such entry") ∈ lw_tbl := fw_in3 (List.mem_of_getElem? (l := tables_1_3) (i := 89) rfl)
theorem wt_3_103 : (Jvm.Cond.stringRef "FencedLedger" (182 : Nat) "no store that is up has it") ∈ lw_tbl := fw_in3 (List.mem_of_getElem? (l := tables_1_3) (i := 103) rfl)
theorem wt_4_103 : (Jvm.Cond.arrayClass Jvm.ClassFile.FieldType.long) ∈ lw_tbl := fw_in4 (List.mem_of_getElem? (l := tables_1_4) (i := 103) rfl)
theorem wm_1_17 : (Jvm.Cond.instantiable "FencedLedger" (10 : Nat)) ∈ fw_ws := List.mem_filter.mpr ⟨fw_in1 (List.mem_of_getElem? (l := tables_1_1) (i := 17) rfl), rfl⟩
theorem wm_3_111 : (Jvm.Cond.instantiable "FencedLedgerModel" (25 : Nat)) ∈ fw_ws := List.mem_filter.mpr ⟨fw_in3 (List.mem_of_getElem? (l := tables_1_3) (i := 111) rfl), rfl⟩
theorem lw_tt {s : State} {args : Array Value} (hts : ∀ w ∈ lw_tbl, w.before args s = true) : ∀ w ∈ (Cond.tt :: fw_ws), w.before args s = true := by
  intro w hw
  rcases List.mem_cons.mp hw with rfl | hw
  · rfl
  · exact hts w (List.mem_filter.mp hw).1
theorem lw_K {s : State} {args : Array Value} (hts : ∀ w ∈ lw_tbl, w.before args s = true) : ∃ (D : va_G) (aC : Nat → ClassId), va_K D fw_cl (fw_tys aC) s := by
  have ht := lw_tt hts
  obtain ⟨c0, i0, h0⟩ := u_known (C := R_CH) (T := T_CH) (N := 3) ht iw_CH (ht _ (List.mem_cons_of_mem _ wq_1_67))
  obtain ⟨c1, i1, h1⟩ := u_known (C := R_MS) (T := T_MS) (N := 7) ht iw_MS (ht _ (List.mem_cons_of_mem _ wq_1_74))
  obtain ⟨c2, i2, h2⟩ := u_known (C := R_RC) (T := T_RC) (N := 7) ht iw_RC (ht _ (List.mem_cons_of_mem _ wq_1_159))
  obtain ⟨c3, i3, h3⟩ := u_known (C := R_ST) (T := T_ST) (N := 6) ht iw_ST (ht _ (List.mem_cons_of_mem _ wq_1_35))
  obtain ⟨c4, i4, h4⟩ := u_known (C := R_WR) (T := T_WR) (N := 5) ht iw_WR (ht _ (List.mem_cons_of_mem _ wq_1_131))
  obtain ⟨c5, i5, h5⟩ := u_known (C := R_FL) (T := T_FL) (N := 10) ht iw_FL (ht _ (List.mem_cons_of_mem _ wm_1_17))
  obtain ⟨c6, i6, h6⟩ := u_known (C := R_MD) (T := T_MD) (N := 25) ht iw_MD (ht _ (List.mem_cons_of_mem _ wm_3_111))
  obtain ⟨a20, k20, m20, f20, e20, d20⟩ := Cond.arrayClass_spec (hts _ wt_1_65)
  obtain ⟨a21, k21, m21, f21, e21, d21⟩ := Cond.arrayClass_spec (hts _ wt_1_64)
  obtain ⟨a22, k22, m22, f22, e22, d22⟩ := Cond.arrayClass_spec (hts _ wt_4_103)
  obtain ⟨m23, a23, k23, n23, -, e23, d23, f23⟩ := Cond.arrayOver_spec (hts _ wt_1_34)
  obtain ⟨m24, a24, k24, n24, -, e24, d24, f24⟩ := Cond.arrayOver_spec (hts _ wt_1_73)
  obtain ⟨m25, a25, k25, n25, -, e25, d25, f25⟩ := Cond.arrayOver_spec (hts _ wt_1_158)
  refine ⟨(fun k => match k with
    | 0 => c0
    | 1 => c1
    | 2 => c2
    | 3 => c3
    | 4 => c4
    | 5 => c5
    | _ => c6, fun k => match k with
    | 0 => i0
    | 1 => i1
    | 2 => i2
    | 3 => i3
    | 4 => i4
    | 5 => i5
    | _ => i6), fun k => match k with
    | 20 => a20
    | 21 => a21
    | 22 => a22
    | 23 => a23
    | 24 => a24
    | _ => a25, fun k q hq => ?_, fun k q hq => ?_⟩
  · match k, hq with
    | 0, hq => cases hq; exact h0
    | 1, hq => cases hq; exact h1
    | 2, hq => cases hq; exact h2
    | 3, hq => cases hq; exact h3
    | 4, hq => cases hq; exact h4
    | 5, hq => cases hq; exact h5
    | 6, hq => cases hq; exact h6
    | k + 7, hq => cases hq
  · match k, hq with
    | 0, hq => cases hq; exact ⟨fun n z => ⟨fun k h => (by cases h), k20, e20, m20, d20⟩, f20⟩
    | 1, hq => cases hq; exact ⟨fun n z => ⟨fun k h => (by cases h), k21, e21, m21, d21⟩, f21⟩
    | 2, hq => cases hq; exact ⟨fun n z => ⟨fun k h => (by cases h), k22, e22, m22, d22⟩, f22⟩
    | 3, hq => cases hq; exact ⟨fun n z => ⟨fun k h => (by cases h), k23, e23, m23, d23⟩, k23, m23, e23, d23, n23, f23⟩
    | 4, hq => cases hq; exact ⟨fun n z => ⟨fun k h => (by cases h), k24, e24, m24, d24⟩, k24, m24, e24, d24, n24, f24⟩
    | 5, hq => cases hq; exact ⟨fun n z => ⟨fun k h => (by cases h), k25, e25, m25, d25⟩, k25, m25, e25, d25, n25, f25⟩
    | k + 6, hq => cases hq
theorem lw_N {s : State} {args : Array Value} (hts : ∀ w ∈ lw_tbl, w.before args s = true) : fw_N s := by
  refine ⟨fun w hw => ?_, va_AO.of (hts _ wt_1_34), va_AO.of (hts _ wt_1_73), va_AO.of (hts _ wt_1_158)⟩
  have h1 := hts w (List.mem_filter.mp hw).1
  have h2 := (List.mem_filter.mp hw).2
  cases w <;> first | (simp [fw_isN] at h2; done) | exact va_Nw.of rfl h1
theorem lw_th {s : State} {args : Array Value} (hts : ∀ w ∈ lw_tbl, w.before args s = true) (hgv : (Jvm.Cond.and given_1 narrow_1).before args s = true) : th_T s ∧ tn_T s := by
  have hs := flat_of_before _ hgv
  have l1 : (Cond.laysStatic Bundle.tN "UNASSIGNED_STACK" Bundle.steD).before args s = true := hts _ wt_3_15
  have l2 : (Cond.laysStatic Bundle.tN "SUPPRESSED_SENTINEL" Bundle.listD).before args s = true := hts _ wt_3_17
  have r1 : (Cond.isRef (.static Bundle.tN "UNASSIGNED_STACK" Bundle.steD)).before args s = true := hs _ (by decide +kernel)
  have r2 : (Cond.isRef (.static Bundle.tN "SUPPRESSED_SENTINEL" Bundle.listD)).before args s = true := hs _ (by decide +kernel)
  have s67 : th_str 67 "the writer is not writing" s := by
    obtain ⟨a, c, cA, kA, q1, -⟩ := Cond.exactly_spec (args := args) (first := s) (o := none) (s := s) (idx := []) (t := .string "FencedLedger" 67) (cls := "java/lang/String") (hs (Cond.exactly (.string "FencedLedger" 67) "java/lang/String") (by decide +kernel))
    exact ⟨a, vk_R.of (hts _ wt_3_29) q1⟩
  have s78 : th_str 78 "too many entries" s := by
    obtain ⟨a, c, cA, kA, q1, -⟩ := Cond.exactly_spec (args := args) (first := s) (o := none) (s := s) (idx := []) (t := .string "FencedLedger" 78) (cls := "java/lang/String") (hs (Cond.exactly (.string "FencedLedger" 78) "java/lang/String") (by decide +kernel))
    exact ⟨a, vk_R.of (hts _ wt_3_69) q1⟩
  have s173 : th_str 173 "the ledger is not closed" s := by
    obtain ⟨a, c, cA, kA, q1, -⟩ := Cond.exactly_spec (args := args) (first := s) (o := none) (s := s) (idx := []) (t := .string "FencedLedger" 173) (cls := "java/lang/String") (hs (Cond.exactly (.string "FencedLedger" 173) "java/lang/String") (by decide +kernel))
    exact ⟨a, vk_R.of (hts _ wt_3_88) q1⟩
  have s175 : th_str 175 "no such entry" s := by
    obtain ⟨a, c, cA, kA, q1, -⟩ := Cond.exactly_spec (args := args) (first := s) (o := none) (s := s) (idx := []) (t := .string "FencedLedger" 175) (cls := "java/lang/String") (hs (Cond.exactly (.string "FencedLedger" 175) "java/lang/String") (by decide +kernel))
    exact ⟨a, vk_R.of (hts _ wt_3_89) q1⟩
  have s182 : th_str 182 "no store that is up has it" s := by
    obtain ⟨a, c, cA, kA, q1, -⟩ := Cond.exactly_spec (args := args) (first := s) (o := none) (s := s) (idx := []) (t := .string "FencedLedger" 182) (cls := "java/lang/String") (hs (Cond.exactly (.string "FencedLedger" 182) "java/lang/String") (by decide +kernel))
    exact ⟨a, vk_R.of (hts _ wt_3_103) q1⟩
  refine ⟨⟨fun w hw => ?_, s67, s78, s173, s175, s182⟩, hs (Cond.not (.castable "java/lang/IndexOutOfBoundsException" "java/lang/IllegalStateException")) (by decide +kernel), hs (Cond.not (.castable "java/lang/UnsupportedOperationException" "java/lang/IllegalStateException")) (by decide +kernel), hs (Cond.not (.castable "java/lang/UnsupportedOperationException" "java/lang/IndexOutOfBoundsException")) (by decide +kernel)⟩
  simp only [th_s4, List.mem_cons, List.not_mem_nil, or_false] at hw
  rcases hw with rfl | rfl | rfl | rfl
  · exact l1
  · exact l2
  · exact r1
  · exact r2
