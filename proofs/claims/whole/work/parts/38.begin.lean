/-! the first world keeps the relation -/
theorem Inv.start {f : Nat → Int32} {gB g : Nat → Int64} (hf : ∀ k, k < 6 → f k = -1) (hB : ∀ k, k < 8 → gB k = -1000000000000) (hg : ∀ k, k < 8 → g k = -1000000000000) : Inv 0 0 (fun _ => 0) (I9 f) (L9 gB g) := by
  refine ⟨?_, fun p hp => ?_, fun p hp => ?_, fun q hq => ?_, fun e he => ?_, fun a ha => ?_, fun n hn a ha => ?_⟩
  · unfold iG1
    simp (disch := omega) only [I9, L9, true_and, and_true, and_self, if_true, if_neg, if_pos]
    exact ⟨nI_0.symm, nI_0.symm, by decide, nI_0.symm, nI_0.symm, by decide⟩
  · refine ⟨?_, ?_, Nat.zero_le 4, fun z => absurd z (by omega), fun _ => rfl, fun k hk => absurd hk (Nat.not_lt_zero k), fun j k hj hk _ => absurd hj (Nat.not_lt_zero j)⟩
    · simp (disch := omega) only [I9, L9, true_and, and_true, and_self, if_true, if_neg, if_pos]
      exact nI_0.symm
    · simp (disch := omega) only [I9, L9, true_and, and_true, and_self, if_true, if_neg, if_pos]
      exact nI_0.symm
  · refine ⟨fun z => absurd z (by omega), fun _ => ?_, Or.inl ?_, fun u hu => ?_⟩
    · simp (disch := omega) only [I9, L9, true_and, and_true, and_self, if_true, if_neg, if_pos]
    · simp (disch := omega) only [I9, L9, true_and, and_true, and_self, if_true, if_neg, if_pos]
    · simp (disch := omega) only [I9, L9, true_and, and_true, and_self, if_true, if_neg, if_pos]
  · refine ⟨?_, Or.inl ?_⟩
    · simp (disch := omega) only [I9, L9, true_and, and_true, and_self, if_true, if_neg, if_pos]
      exact (hf q hq).symm
    · simp (disch := omega) only [I9, L9, true_and, and_true, and_self, if_true, if_neg, if_pos]
      exact hf q hq
  · refine ⟨fun z => absurd z (by omega), fun _ => ?_⟩
    simp (disch := omega) only [I9, L9, true_and, and_true, and_self, if_true, if_neg, if_pos]
  · refine ⟨?_, ?_⟩
    · simp (disch := omega) only [I9, L9, true_and, and_true, and_self, if_true, if_neg, if_pos]
    · simp (disch := omega) only [I9, L9, true_and, and_true, and_self, if_true, if_neg, if_pos]
      rw [hB a ha, hg a ha]
  · obtain rfl : n = 0 := by omega
    simp (disch := omega) only [I9, L9, true_and, and_true, and_self, if_true, if_neg, if_pos]
    rfl
/-! what the Statement gives of the start -/
theorem st_nc : ∀ E ∈ gEx, ∀ F ∈ gEx, E ≠ F → Cond.not (.castable E F) ∈ flatC (Jvm.Cond.and given_1 narrow_1) := by decide +kernel
theorem st_str : ∀ q ∈ gST, Cond.exactly (.string RX3 q.1) "java/lang/String" ∈ flatC (Jvm.Cond.and given_1 narrow_1) := by decide +kernel
theorem st_r1 : Cond.isRef (.static Bundle.tN "UNASSIGNED_STACK" Bundle.steD) ∈ flatC (Jvm.Cond.and given_1 narrow_1) := by decide +kernel
theorem st_r2 : Cond.isRef (.static Bundle.tN "SUPPRESSED_SENTINEL" Bundle.listD) ∈ flatC (Jvm.Cond.and given_1 narrow_1) := by decide +kernel
theorem gNW_on : ∀ w ∈ gNW, w.onTables = true := by decide +kernel
section ST
variable {args : Array Value} {s : State} {A : Nat → Prop}
theorem st_gE (hts : ∀ w ∈ lw_tbl, w.before args s = true) (hgv : (Jvm.Cond.and given_1 narrow_1).before args s = true) (hA : ∀ a : Nat, a < s.heap.size → ¬ A a) : gE A s s.heap := by
  have hs := flat_of_before _ hgv
  refine ⟨vx_Zqof (hts _ (tb1 202 rfl)) (hts _ (tb1 6 rfl)) (hs _ st_r1) hA, vx_Zqof (hts _ (tb1 204 rfl)) (hts _ (tb1 6 rfl)) (hs _ st_r2) hA, fun w hw => va_Nw.of (gNW_on w hw) (hts w (gNW_in w hw)), fun q hq => ?_, fun w hw => va_Nw.of (gNX_on w hw) (hts w (gNX_in w hw)), fun E hE F hF hne => va_Nc.of (hs _ (st_nc E hE F hF hne))⟩
  obtain ⟨a, c, cell, k, ha, -⟩ := Cond.exactly_spec (hs _ (st_str q hq))
  exact ⟨a, vk_R.of (hts _ (gST_in q hq)) ha⟩
theorem st_gIE (hts : ∀ w ∈ lw_tbl, w.before args s = true) : gIE s :=
  ⟨fun w hw => va_Nw.of (gNW_on w hw) (hts w (gNW_in w hw)), va_AO.of (hts _ (tb1 23 rfl)), va_AO.of (hts _ (tb1 25 rfl)), va_AO.of (hts _ (tb1 27 rfl)), hts _ (tb1 29 rfl)⟩
theorem st_long (h : (Cond.arrayClass .long).before args s = true) : ∃ cA : ClassId, ArrOfT s cA .long ∧ va_RA s cA .long := by
  obtain ⟨c, k, comp, h1, h2, h3⟩ := Cond.arrayClass_spec h
  exact ⟨c, fun n z => ⟨fun k h => (by cases h), k, h2, comp, h3⟩, h1⟩
theorem st_int (h : (Cond.arrayClass .int).before args s = true) : ∃ cA : ClassId, ArrOfT s cA .int ∧ va_RA s cA .int := by
  obtain ⟨c, k, comp, h1, h2, h3⟩ := Cond.arrayClass_spec h
  exact ⟨c, fun n z => ⟨fun k h => (by cases h), k, h2, comp, h3⟩, h1⟩
theorem st_bool (h : (Cond.arrayClass .boolean).before args s = true) : ∃ cA : ClassId, ArrOfT s cA .boolean ∧ va_RA s cA .boolean := by
  obtain ⟨c, k, comp, h1, h2, h3⟩ := Cond.arrayClass_spec h
  exact ⟨c, fun n z => ⟨fun k h => (by cases h), k, h2, comp, h3⟩, h1⟩
theorem st_obj {C : String} (h : (Cond.arrayOver (.object C)).before args s = true) : ∃ cA : ClassId, ArrOfT s cA (.object C) ∧ va_RA s cA (.object C) := by
  obtain ⟨comp, c, k, h1, -, h3, h4, h5⟩ := Cond.arrayOver_spec h
  exact ⟨c, fun n z => ⟨fun k h => (by cases h), k, h3, comp, h4⟩, k, comp, h3, h4, h1, h5⟩
theorem st_arr (h : (Cond.arrayOver (.array .long)).before args s = true) : ∃ cA : ClassId, ArrOfT s cA (.array .long) ∧ va_RA s cA (.array .long) := by
  obtain ⟨comp, c, k, h1, -, h3, h4, h5⟩ := arrayOverA_spec h
  exact ⟨c, fun n z => ⟨fun k h => (by cases h), k, h3, comp, h4⟩, h5⟩
theorem st_K (hts : ∀ w ∈ lw_tbl, w.before args s = true) : ∃ (D : va_G) (cy : Nat → ClassId), va_K D vwCl (gty cy) s := by
  have hw : ∀ w ∈ WS, w.before args s = true := fun w h => hts w (List.mem_filter.mp h).1
  obtain ⟨c0, i0, k0⟩ := u_known (C := RX0) (T := TX0) (N := 6) (n := 6) hw inwX0 (hw _ kinst_X0)
  obtain ⟨c1, i1, k1⟩ := u_known (C := RX1) (T := TX1) (N := 5) (n := 5) hw inwX1 (hw _ kinst_X1)
  obtain ⟨c2, i2, k2⟩ := u_known (C := RX2) (T := TX2) (N := 3) (n := 3) hw inwX2 (hw _ kinst_X2)
  obtain ⟨c3, i3, k3⟩ := u_known (C := RX3) (T := TX3) (N := 9) (n := 9) hw inwX3 (hw _ kinst_X3)
  obtain ⟨c4, i4, k4⟩ := u_known (C := RX4) (T := TX4) (N := 20) (n := 20) hw inwX4 (hw _ kinst_X4)
  obtain ⟨a0, b0⟩ := st_long (hts _ (tb1 56 rfl))
  obtain ⟨a1, b1⟩ := st_int (hts _ (tb1 57 rfl))
  obtain ⟨a2, b2⟩ := st_bool (hts _ (tb1 58 rfl))
  obtain ⟨a3, b3⟩ := st_obj (hts _ (tb1 23 rfl))
  obtain ⟨a4, b4⟩ := st_obj (hts _ (tb1 25 rfl))
  obtain ⟨a5, b5⟩ := st_obj (hts _ (tb1 27 rfl))
  obtain ⟨a6, b6⟩ := st_arr (hts _ (tb1 29 rfl))
  refine ⟨(fun k => match k with | 0 => c0 | 1 => c1 | 2 => c2 | 3 => c3 | _ => c4, fun k => match k with | 0 => i0 | 1 => i1 | 2 => i2 | 3 => i3 | _ => i4), fun k => match k with | 0 => a0 | 1 => a1 | 2 => a2 | 3 => a3 | 4 => a4 | 5 => a5 | _ => a6, fun k q hq => ?_, fun k q hq => ?_⟩
  · match k, hq with
    | 0, hq => cases hq; exact k0
    | 1, hq => cases hq; exact k1
    | 2, hq => cases hq; exact k2
    | 3, hq => cases hq; exact k3
    | 4, hq => cases hq; exact k4
    | k + 5, hq => simp at hq
  · match k, hq with
    | 0, hq => cases hq; exact b0
    | 1, hq => cases hq; exact b1
    | 2, hq => cases hq; exact b2
    | 3, hq => cases hq; exact b3
    | 4, hq => cases hq; exact b4
    | 5, hq => cases hq; exact b5
    | 6, hq => cases hq; exact b6
    | k + 7, hq => simp [gty] at hq
end ST
