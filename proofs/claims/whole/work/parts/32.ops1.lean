set_option maxHeartbeats 4000000 in
theorem mn_draw {np ne : Nat} {lc : Nat → Nat} {I I1 I2 : MI} {L L1 L2 : ML} {x1 : Int32} {x2 : Int32} (h : Inv np ne lc I L) (hI : iRI I I1) (hL : iRL L L1) {b : Int32} (hm : pq_X4_draw np lc x1 x2 I1 L1 b I2 L2) : (vp_in x1 8 ∧ gSh x2 ∧ np < 10 ∧ nI np = b ∧ (sI (sI (sI (sI (sI (sI I1 136 0 0) 136 3 ((nI np) + 1)) 139 np 1) 140 np (-1)) 141 (4 * np) x1) 142 (4 * np) x2) = I2 ∧ L1 = L2) ∨ (vp_in x1 8 ∧ gSh x2 ∧ ¬ np < 10 ∧ (0 : Int32) = b ∧ (sI I1 136 0 3) = I2 ∧ L1 = L2) ∨ (vp_in x1 8 ∧ ¬ gSh x2 ∧ (0 : Int32) = b ∧ (sI I1 136 0 2) = I2 ∧ L1 = L2) ∨ (¬ vp_in x1 8 ∧ (0 : Int32) = b ∧ (sI I1 136 0 1) = I2 ∧ L1 = L2) := by
  have hI0 : ∀ k, 136 < k → I1 k = I k := fun k hk => hI k (by omega)
  have hIs : ∀ k, 136 < k → (sI I1 136 0 0) k = I k := fun k hk => (s_row rfl k hk).trans (hI k (by omega))
  rcases hm with ⟨m0, m1, m2, e0, e1, e2⟩ | ⟨m0, m1, m2, e0, e1, e2⟩ | ⟨m0, m1, e0, e1, e2⟩ | ⟨m0, e0, e1, e2⟩
  · exact Or.inl (⟨m0, m1, (by have := h.ne40; have := h.np10; omega), e0, e1, e2⟩)
  · exact Or.inr (Or.inl (⟨m0, m1, (by have := h.ne40; have := h.np10; omega), e0, e1, e2⟩))
  · exact Or.inr (Or.inr (Or.inl (⟨m0, m1, e0, e1, e2⟩)))
  · exact Or.inr (Or.inr (Or.inr ((⟨m0, e0, e1, e2⟩))))
set_option maxHeartbeats 8000000 in
theorem op_draw {np ne : Nat} {lc : Nat → Nat} {I I1 : MI} {L L1 : ML} {x1 : Int32} {x2 : Int32} (h : Inv np ne lc I L) {k : Int32} (hc : pq_L_draw np lc x1 x2 I L k I1 L1) : iRI I I1 ∧ ∀ (b : Int32) (I2 : MI) (L2 : ML), pq_X4_draw np lc x1 x2 I1 L1 b I2 L2 → iO k (L2 135 0 = b.toInt64) I2 L2 := by
  have h40 := h.ne40
  have h10 := h.np10
  rcases hc with (⟨v, L9, (⟨c0, c1, c2, rfl, rfl, rfl⟩), rfl, rfl⟩) | ⟨(⟨c0, cE, rfl, rfl⟩ | ⟨c0, c1, cE, rfl, rfl⟩ | ⟨c0, c1, c2, cE, rfl, rfl⟩), rfl⟩ | ⟨(⟨c0, cE, rfl, rfl⟩ | ⟨c0, c1, cE, rfl, rfl⟩ | ⟨c0, c1, c2, cE, rfl, rfl⟩), rfl⟩ | ⟨(⟨c0, cE, rfl, rfl⟩ | ⟨c0, c1, cE, rfl, rfl⟩ | ⟨c0, c1, c2, cE, rfl, rfl⟩), rfl⟩
  · have u0 := (vp_ix c0).2
    refine ⟨fun c hc => by (first | rfl | (simp (disch := omega) only [sI_row])), fun b I2 L2 hm => ?_⟩
    have hm := mn_draw h (fun c hc => by (first | rfl | (simp (disch := omega) only [sI_row]))) (fun c hc => by (first | rfl | (simp (disch := omega) only [sL_row, gSS_o, gsc_o, gPW_0, gcp_o, gRL_o, gRS_o, gRM_o, gRT_o, va_up_ne]))) hm
    rcases hm with ⟨m0, m1, m2, rfl, rfl, rfl⟩ | ⟨m0, m1, m2, rfl, rfl, rfl⟩ | ⟨m0, m1, rfl, rfl, rfl⟩ | ⟨m0, rfl, rfl, rfl⟩
    all_goals first | contradiction | (exact ⟨by (simp (disch := omega) only [sI_at, sL_at, true_and, and_true, and_self, if_true, if_neg, if_pos]), fun _ => by (simp (disch := omega) only [sI_at, sL_at, true_and, and_true, and_self, if_true, if_neg, if_pos]), np + 1, ne, va_up lc np 1, Inv.draw h (by assumption) (by assumption)⟩)
  · refine ⟨fun c hc => by (first | rfl | (simp (disch := omega) only [sI_row])), fun b I2 L2 hm => ?_⟩
    have hm := mn_draw h (fun c hc => by (first | rfl | (simp (disch := omega) only [sI_row]))) (fun c hc => by (first | rfl | (simp (disch := omega) only [sL_row, gSS_o, gsc_o, gPW_0, gcp_o, gRL_o, gRS_o, gRM_o, gRT_o, va_up_ne]))) hm
    rcases hm with ⟨m0, m1, m2, rfl, rfl, rfl⟩ | ⟨m0, m1, m2, rfl, rfl, rfl⟩ | ⟨m0, m1, rfl, rfl, rfl⟩ | ⟨m0, rfl, rfl, rfl⟩
    all_goals first | contradiction | (exact iO_t h (by decide) (by (simp (disch := omega) only [sI_at, sL_at, true_and, and_true, and_self, if_true, if_neg, if_pos])) (fun c j hc => by (simp (disch := omega) only [sI_at, sL_at, true_and, and_true, and_self, if_true, if_neg, if_pos])) (fun c h1 h2 h3 => by (first | rfl | (simp (disch := omega) only [sL_row, gSS_o, gsc_o, gPW_0, gcp_o, gRL_o, gRS_o, gRM_o, gRT_o, va_up_ne]))))
  · exact absurd cE (by decide)
  · exact absurd cE (by decide)
  · exact absurd cE (by decide)
  · refine ⟨fun c hc => by (first | rfl | (simp (disch := omega) only [sI_row])), fun b I2 L2 hm => ?_⟩
    have hm := mn_draw h (fun c hc => by (first | rfl | (simp (disch := omega) only [sI_row]))) (fun c hc => by (first | rfl | (simp (disch := omega) only [sL_row, gSS_o, gsc_o, gPW_0, gcp_o, gRL_o, gRS_o, gRM_o, gRT_o, va_up_ne]))) hm
    rcases hm with ⟨m0, m1, m2, rfl, rfl, rfl⟩ | ⟨m0, m1, m2, rfl, rfl, rfl⟩ | ⟨m0, m1, rfl, rfl, rfl⟩ | ⟨m0, rfl, rfl, rfl⟩
    all_goals first | contradiction | (exact iO_t h (by decide) (by (simp (disch := omega) only [sI_at, sL_at, true_and, and_true, and_self, if_true, if_neg, if_pos])) (fun c j hc => by (simp (disch := omega) only [sI_at, sL_at, true_and, and_true, and_self, if_true, if_neg, if_pos])) (fun c h1 h2 h3 => by (first | rfl | (simp (disch := omega) only [sL_row, gSS_o, gsc_o, gPW_0, gcp_o, gRL_o, gRS_o, gRM_o, gRT_o, va_up_ne]))))
  · exact absurd cE (by decide)
  · exact absurd cE (by decide)
  · exact absurd cE (by decide)
  · refine ⟨fun c hc => by (first | rfl | (simp (disch := omega) only [sI_row])), fun b I2 L2 hm => ?_⟩
    have hm := mn_draw h (fun c hc => by (first | rfl | (simp (disch := omega) only [sI_row]))) (fun c hc => by (first | rfl | (simp (disch := omega) only [sL_row, gSS_o, gsc_o, gPW_0, gcp_o, gRL_o, gRS_o, gRM_o, gRT_o, va_up_ne]))) hm
    rcases hm with ⟨m0, m1, m2, rfl, rfl, rfl⟩ | ⟨m0, m1, m2, rfl, rfl, rfl⟩ | ⟨m0, m1, rfl, rfl, rfl⟩ | ⟨m0, rfl, rfl, rfl⟩
    all_goals first | contradiction | (exact iO_t h (by decide) (by (simp (disch := omega) only [sI_at, sL_at, true_and, and_true, and_self, if_true, if_neg, if_pos])) (fun c j hc => by (simp (disch := omega) only [sI_at, sL_at, true_and, and_true, and_self, if_true, if_neg, if_pos])) (fun c h1 h2 h3 => by (first | rfl | (simp (disch := omega) only [sL_row, gSS_o, gsc_o, gPW_0, gcp_o, gRL_o, gRS_o, gRM_o, gRT_o, va_up_ne]))))
set_option maxHeartbeats 4000000 in
theorem mn_add {np ne : Nat} {lc : Nat → Nat} {I I1 I2 : MI} {L L1 L2 : ML} {x1 : Int32} {x2 : Int32} {x3 : Int32} (h : Inv np ne lc I L) (hI : iRI I I1) (hL : iRL L L1) {b : Int32} (hm : pq_X4_add np lc x1 x2 x3 I1 L1 b I2 L2) : (vp_in x1 np ∧ vp_in x2 8 ∧ gSh x3 ∧ (∃ k, k < lc x1.toNatClampNeg ∧ I (96 + 4 * x1.toNatClampNeg) k = x2) ∧ (0 : Int32) = b ∧ (sI (sI I1 136 0 0) 136 0 2) = I2 ∧ L1 = L2) ∨ (vp_in x1 np ∧ vp_in x2 8 ∧ gSh x3 ∧ (¬ (∃ k, k < lc x1.toNatClampNeg ∧ I (96 + 4 * x1.toNatClampNeg) k = x2)) ∧ ¬ (I (95 + 4 * x1.toNatClampNeg) 3) = (-1) ∧ (0 : Int32) = b ∧ (sI (sI I1 136 0 0) 136 0 3) = I2 ∧ L1 = L2) ∨ (vp_in x1 np ∧ vp_in x2 8 ∧ gSh x3 ∧ (¬ (∃ k, k < lc x1.toNatClampNeg ∧ I (96 + 4 * x1.toNatClampNeg) k = x2)) ∧ (I (95 + 4 * x1.toNatClampNeg) 3) = (-1) ∧ (lc x1.toNatClampNeg) < 4 ∧ (nI (lc x1.toNatClampNeg)) + 1 = b ∧ (sI (sI (sI (sI (sI I1 136 0 0) 136 0 0) 141 ((4 * x1.toNatClampNeg) + (lc x1.toNatClampNeg)) x2) 142 ((4 * x1.toNatClampNeg) + (lc x1.toNatClampNeg)) x3) 139 x1.toNatClampNeg ((nI (lc x1.toNatClampNeg)) + 1)) = I2 ∧ L1 = L2) ∨ (vp_in x1 np ∧ vp_in x2 8 ∧ gSh x3 ∧ (¬ (∃ k, k < lc x1.toNatClampNeg ∧ I (96 + 4 * x1.toNatClampNeg) k = x2)) ∧ (I (95 + 4 * x1.toNatClampNeg) 3) = (-1) ∧ ¬ (lc x1.toNatClampNeg) < 4 ∧ (0 : Int32) = b ∧ (sI (sI I1 136 0 0) 136 0 3) = I2 ∧ L1 = L2) ∨ (vp_in x1 np ∧ vp_in x2 8 ∧ ¬ gSh x3 ∧ (0 : Int32) = b ∧ (sI (sI I1 136 0 0) 136 0 2) = I2 ∧ L1 = L2) ∨ (vp_in x1 np ∧ ¬ vp_in x2 8 ∧ (0 : Int32) = b ∧ (sI I1 136 0 1) = I2 ∧ L1 = L2) ∨ (¬ vp_in x1 np ∧ (0 : Int32) = b ∧ (sI I1 136 0 1) = I2 ∧ L1 = L2) := by
  have hI0 : ∀ k, 136 < k → I1 k = I k := fun k hk => hI k (by omega)
  have hIs : ∀ k, 136 < k → (sI I1 136 0 0) k = I k := fun k hk => (s_row rfl k hk).trans (hI k (by omega))
  rcases hm with ⟨m0, m1, m2, m3, e0, e1, e2⟩ | ⟨m0, m1, m2, m3, m4, e0, e1, e2⟩ | ⟨m0, m1, m2, m3, m4, m5, e0, e1, e2⟩ | ⟨m0, m1, m2, m3, m4, m5, e0, e1, e2⟩ | ⟨m0, m1, m2, e0, e1, e2⟩ | ⟨m0, m1, e0, e1, e2⟩ | ⟨m0, e0, e1, e2⟩
  · exact Or.inl (⟨m0, m1, m2, (b_has h hIs (Nat.lt_of_lt_of_le (vp_ix m0).2 h.np10)).mp m3, e0, e1, e2⟩)
  · exact Or.inr (Or.inl (⟨m0, m1, m2, fun z => m3 ((b_has h hIs (Nat.lt_of_lt_of_le (vp_ix m0).2 h.np10)).mpr z), (b_cer h hI0 (vp_ix m0).2).mp m4, e0, e1, e2⟩))
  · exact Or.inr (Or.inr (Or.inl (⟨m0, m1, m2, fun z => m3 ((b_has h hIs (Nat.lt_of_lt_of_le (vp_ix m0).2 h.np10)).mpr z), Decidable.not_not.mp (fun z => m4 ((b_cer h hI0 (vp_ix m0).2).mpr z)), (by have u := (vp_ix m0).2; have := h.np10; have := h.lc4 x1.toNatClampNeg (by omega); have := h.lc1 _ u; omega), e0, e1, e2⟩)))
  · exact Or.inr (Or.inr (Or.inr (Or.inl (⟨m0, m1, m2, fun z => m3 ((b_has h hIs (Nat.lt_of_lt_of_le (vp_ix m0).2 h.np10)).mpr z), Decidable.not_not.mp (fun z => m4 ((b_cer h hI0 (vp_ix m0).2).mpr z)), (by have u := (vp_ix m0).2; have := h.np10; have := h.lc4 x1.toNatClampNeg (by omega); have := h.lc1 _ u; omega), e0, e1, e2⟩))))
  · exact Or.inr (Or.inr (Or.inr (Or.inr (Or.inl (⟨m0, m1, m2, e0, e1, e2⟩)))))
  · exact Or.inr (Or.inr (Or.inr (Or.inr (Or.inr (Or.inl (⟨m0, m1, e0, e1, e2⟩))))))
  · exact Or.inr (Or.inr (Or.inr (Or.inr (Or.inr (Or.inr ((⟨m0, e0, e1, e2⟩)))))))
set_option maxHeartbeats 8000000 in
theorem op_add {np ne : Nat} {lc : Nat → Nat} {I I1 : MI} {L L1 : ML} {x1 : Int32} {x2 : Int32} {x3 : Int32} (h : Inv np ne lc I L) {k : Int32} (hc : pq_L_add np lc x1 x2 x3 I L k I1 L1) : iRI I I1 ∧ ∀ (b : Int32) (I2 : MI) (L2 : ML), pq_X4_add np lc x1 x2 x3 I1 L1 b I2 L2 → iO k (L2 135 0 = b.toInt64) I2 L2 := by
  have h40 := h.ne40
  have h10 := h.np10
  rcases hc with (⟨v, L9, (⟨c0, c1, c2, c3, c4, c5, rfl, rfl, rfl⟩), rfl, rfl⟩) | ⟨(⟨c0, cE, rfl, rfl⟩ | ⟨c0, c1, cE, rfl, rfl⟩ | ⟨c0, c1, c2, cE, rfl, rfl⟩ | ⟨c0, c1, c2, c3, cE, rfl, rfl⟩ | ⟨c0, c1, c2, c3, c4, c5, cE, rfl, rfl⟩ | ⟨c0, c1, c2, c3, c4, cE, rfl, rfl⟩), rfl⟩ | ⟨(⟨c0, cE, rfl, rfl⟩ | ⟨c0, c1, cE, rfl, rfl⟩ | ⟨c0, c1, c2, cE, rfl, rfl⟩ | ⟨c0, c1, c2, c3, cE, rfl, rfl⟩ | ⟨c0, c1, c2, c3, c4, c5, cE, rfl, rfl⟩ | ⟨c0, c1, c2, c3, c4, cE, rfl, rfl⟩), rfl⟩ | ⟨(⟨c0, cE, rfl, rfl⟩ | ⟨c0, c1, cE, rfl, rfl⟩ | ⟨c0, c1, c2, cE, rfl, rfl⟩ | ⟨c0, c1, c2, c3, cE, rfl, rfl⟩ | ⟨c0, c1, c2, c3, c4, c5, cE, rfl, rfl⟩ | ⟨c0, c1, c2, c3, c4, cE, rfl, rfl⟩), rfl⟩
  · have u0 := (vp_ix c0).2; have u1 := (vp_ix c1).2
    refine ⟨fun c hc => by (first | rfl | (simp (disch := omega) only [sI_row])), fun b I2 L2 hm => ?_⟩
    have hm := mn_add h (fun c hc => by (first | rfl | (simp (disch := omega) only [sI_row]))) (fun c hc => by (first | rfl | (simp (disch := omega) only [sL_row, gSS_o, gsc_o, gPW_0, gcp_o, gRL_o, gRS_o, gRM_o, gRT_o, va_up_ne]))) hm
    rcases hm with ⟨m0, m1, m2, m3, rfl, rfl, rfl⟩ | ⟨m0, m1, m2, m3, m4, rfl, rfl, rfl⟩ | ⟨m0, m1, m2, m3, m4, m5, rfl, rfl, rfl⟩ | ⟨m0, m1, m2, m3, m4, m5, rfl, rfl, rfl⟩ | ⟨m0, m1, m2, rfl, rfl, rfl⟩ | ⟨m0, m1, rfl, rfl, rfl⟩ | ⟨m0, rfl, rfl, rfl⟩
    all_goals first | contradiction | (exact ⟨by (simp (disch := omega) only [sI_at, sL_at, true_and, and_true, and_self, if_true, if_neg, if_pos]), fun _ => by (simp (disch := omega) only [sI_at, sL_at, true_and, and_true, and_self, if_true, if_neg, if_pos]), np, ne, va_up lc _ _, Inv.add h (vp_ix m0).2 rfl c5 c4 m1 c3⟩)
  · refine ⟨fun c hc => by (first | rfl | (simp (disch := omega) only [sI_row])), fun b I2 L2 hm => ?_⟩
    have hm := mn_add h (fun c hc => by (first | rfl | (simp (disch := omega) only [sI_row]))) (fun c hc => by (first | rfl | (simp (disch := omega) only [sL_row, gSS_o, gsc_o, gPW_0, gcp_o, gRL_o, gRS_o, gRM_o, gRT_o, va_up_ne]))) hm
    rcases hm with ⟨m0, m1, m2, m3, rfl, rfl, rfl⟩ | ⟨m0, m1, m2, m3, m4, rfl, rfl, rfl⟩ | ⟨m0, m1, m2, m3, m4, m5, rfl, rfl, rfl⟩ | ⟨m0, m1, m2, m3, m4, m5, rfl, rfl, rfl⟩ | ⟨m0, m1, m2, rfl, rfl, rfl⟩ | ⟨m0, m1, rfl, rfl, rfl⟩ | ⟨m0, rfl, rfl, rfl⟩
    all_goals first | contradiction | (exact iO_t h (by decide) (by (simp (disch := omega) only [sI_at, sL_at, true_and, and_true, and_self, if_true, if_neg, if_pos])) (fun c j hc => by (simp (disch := omega) only [sI_at, sL_at, true_and, and_true, and_self, if_true, if_neg, if_pos])) (fun c h1 h2 h3 => by (first | rfl | (simp (disch := omega) only [sL_row, gSS_o, gsc_o, gPW_0, gcp_o, gRL_o, gRS_o, gRM_o, gRT_o, va_up_ne]))))
  · refine ⟨fun c hc => by (first | rfl | (simp (disch := omega) only [sI_row])), fun b I2 L2 hm => ?_⟩
    have hm := mn_add h (fun c hc => by (first | rfl | (simp (disch := omega) only [sI_row]))) (fun c hc => by (first | rfl | (simp (disch := omega) only [sL_row, gSS_o, gsc_o, gPW_0, gcp_o, gRL_o, gRS_o, gRM_o, gRT_o, va_up_ne]))) hm
    rcases hm with ⟨m0, m1, m2, m3, rfl, rfl, rfl⟩ | ⟨m0, m1, m2, m3, m4, rfl, rfl, rfl⟩ | ⟨m0, m1, m2, m3, m4, m5, rfl, rfl, rfl⟩ | ⟨m0, m1, m2, m3, m4, m5, rfl, rfl, rfl⟩ | ⟨m0, m1, m2, rfl, rfl, rfl⟩ | ⟨m0, m1, rfl, rfl, rfl⟩ | ⟨m0, rfl, rfl, rfl⟩
    all_goals first | contradiction | (exact iO_t h (by decide) (by (simp (disch := omega) only [sI_at, sL_at, true_and, and_true, and_self, if_true, if_neg, if_pos])) (fun c j hc => by (simp (disch := omega) only [sI_at, sL_at, true_and, and_true, and_self, if_true, if_neg, if_pos])) (fun c h1 h2 h3 => by (first | rfl | (simp (disch := omega) only [sL_row, gSS_o, gsc_o, gPW_0, gcp_o, gRL_o, gRS_o, gRM_o, gRT_o, va_up_ne]))))
  · exact absurd cE (by decide)
  · exact absurd cE (by decide)
  · exact absurd cE (by decide)
  · exact absurd cE (by decide)
  · exact absurd cE (by decide)
  · exact absurd cE (by decide)
  · refine ⟨fun c hc => by (first | rfl | (simp (disch := omega) only [sI_row])), fun b I2 L2 hm => ?_⟩
    have hm := mn_add h (fun c hc => by (first | rfl | (simp (disch := omega) only [sI_row]))) (fun c hc => by (first | rfl | (simp (disch := omega) only [sL_row, gSS_o, gsc_o, gPW_0, gcp_o, gRL_o, gRS_o, gRM_o, gRT_o, va_up_ne]))) hm
    rcases hm with ⟨m0, m1, m2, m3, rfl, rfl, rfl⟩ | ⟨m0, m1, m2, m3, m4, rfl, rfl, rfl⟩ | ⟨m0, m1, m2, m3, m4, m5, rfl, rfl, rfl⟩ | ⟨m0, m1, m2, m3, m4, m5, rfl, rfl, rfl⟩ | ⟨m0, m1, m2, rfl, rfl, rfl⟩ | ⟨m0, m1, rfl, rfl, rfl⟩ | ⟨m0, rfl, rfl, rfl⟩
    all_goals first | contradiction | (exact iO_t h (by decide) (by (simp (disch := omega) only [sI_at, sL_at, true_and, and_true, and_self, if_true, if_neg, if_pos])) (fun c j hc => by (simp (disch := omega) only [sI_at, sL_at, true_and, and_true, and_self, if_true, if_neg, if_pos])) (fun c h1 h2 h3 => by (first | rfl | (simp (disch := omega) only [sL_row, gSS_o, gsc_o, gPW_0, gcp_o, gRL_o, gRS_o, gRM_o, gRT_o, va_up_ne]))))
  · refine ⟨fun c hc => by (first | rfl | (simp (disch := omega) only [sI_row])), fun b I2 L2 hm => ?_⟩
    have hm := mn_add h (fun c hc => by (first | rfl | (simp (disch := omega) only [sI_row]))) (fun c hc => by (first | rfl | (simp (disch := omega) only [sL_row, gSS_o, gsc_o, gPW_0, gcp_o, gRL_o, gRS_o, gRM_o, gRT_o, va_up_ne]))) hm
    rcases hm with ⟨m0, m1, m2, m3, rfl, rfl, rfl⟩ | ⟨m0, m1, m2, m3, m4, rfl, rfl, rfl⟩ | ⟨m0, m1, m2, m3, m4, m5, rfl, rfl, rfl⟩ | ⟨m0, m1, m2, m3, m4, m5, rfl, rfl, rfl⟩ | ⟨m0, m1, m2, rfl, rfl, rfl⟩ | ⟨m0, m1, rfl, rfl, rfl⟩ | ⟨m0, rfl, rfl, rfl⟩
    all_goals first | contradiction | (exact iO_t h (by decide) (by (simp (disch := omega) only [sI_at, sL_at, true_and, and_true, and_self, if_true, if_neg, if_pos])) (fun c j hc => by (simp (disch := omega) only [sI_at, sL_at, true_and, and_true, and_self, if_true, if_neg, if_pos])) (fun c h1 h2 h3 => by (first | rfl | (simp (disch := omega) only [sL_row, gSS_o, gsc_o, gPW_0, gcp_o, gRL_o, gRS_o, gRM_o, gRT_o, va_up_ne]))))
  · exact absurd cE (by decide)
  · exact absurd cE (by decide)
  · exact absurd cE (by decide)
  · exact absurd cE (by decide)
  · exact absurd cE (by decide)
  · exact absurd cE (by decide)
  · refine ⟨fun c hc => by (first | rfl | (simp (disch := omega) only [sI_row])), fun b I2 L2 hm => ?_⟩
    have hm := mn_add h (fun c hc => by (first | rfl | (simp (disch := omega) only [sI_row]))) (fun c hc => by (first | rfl | (simp (disch := omega) only [sL_row, gSS_o, gsc_o, gPW_0, gcp_o, gRL_o, gRS_o, gRM_o, gRT_o, va_up_ne]))) hm
    rcases hm with ⟨m0, m1, m2, m3, rfl, rfl, rfl⟩ | ⟨m0, m1, m2, m3, m4, rfl, rfl, rfl⟩ | ⟨m0, m1, m2, m3, m4, m5, rfl, rfl, rfl⟩ | ⟨m0, m1, m2, m3, m4, m5, rfl, rfl, rfl⟩ | ⟨m0, m1, m2, rfl, rfl, rfl⟩ | ⟨m0, m1, rfl, rfl, rfl⟩ | ⟨m0, rfl, rfl, rfl⟩
    all_goals first | contradiction | (exact iO_t h (by decide) (by (simp (disch := omega) only [sI_at, sL_at, true_and, and_true, and_self, if_true, if_neg, if_pos])) (fun c j hc => by (simp (disch := omega) only [sI_at, sL_at, true_and, and_true, and_self, if_true, if_neg, if_pos])) (fun c h1 h2 h3 => by (first | rfl | (simp (disch := omega) only [sL_row, gSS_o, gsc_o, gPW_0, gcp_o, gRL_o, gRS_o, gRM_o, gRT_o, va_up_ne]))))
  · refine ⟨fun c hc => by (first | rfl | (simp (disch := omega) only [sI_row])), fun b I2 L2 hm => ?_⟩
    have hm := mn_add h (fun c hc => by (first | rfl | (simp (disch := omega) only [sI_row]))) (fun c hc => by (first | rfl | (simp (disch := omega) only [sL_row, gSS_o, gsc_o, gPW_0, gcp_o, gRL_o, gRS_o, gRM_o, gRT_o, va_up_ne]))) hm
    rcases hm with ⟨m0, m1, m2, m3, rfl, rfl, rfl⟩ | ⟨m0, m1, m2, m3, m4, rfl, rfl, rfl⟩ | ⟨m0, m1, m2, m3, m4, m5, rfl, rfl, rfl⟩ | ⟨m0, m1, m2, m3, m4, m5, rfl, rfl, rfl⟩ | ⟨m0, m1, m2, rfl, rfl, rfl⟩ | ⟨m0, m1, rfl, rfl, rfl⟩ | ⟨m0, rfl, rfl, rfl⟩
    all_goals first | contradiction | (exact iO_t h (by decide) (by (simp (disch := omega) only [sI_at, sL_at, true_and, and_true, and_self, if_true, if_neg, if_pos])) (fun c j hc => by (simp (disch := omega) only [sI_at, sL_at, true_and, and_true, and_self, if_true, if_neg, if_pos])) (fun c h1 h2 h3 => by (first | rfl | (simp (disch := omega) only [sL_row, gSS_o, gsc_o, gPW_0, gcp_o, gRL_o, gRS_o, gRM_o, gRT_o, va_up_ne]))))
set_option maxHeartbeats 4000000 in
theorem mn_certify {np ne : Nat} {lc : Nat → Nat} {I I1 I2 : MI} {L L1 L2 : ML} {x1 : Int32} {x2 : Int32} (h : Inv np ne lc I L) (hI : iRI I I1) (hL : iRL L L1) (hm : pq_X4_certify np lc x1 x2 I1 L1 I2 L2) : (vp_in x1 8 ∧ vp_in x2 np ∧ x1 < 2 ∧ ¬ (I (95 + 4 * x2.toNatClampNeg) 3) = (-1) ∧ (sI (sI I1 136 0 0) 136 0 3) = I2 ∧ L1 = L2) ∨ (vp_in x1 8 ∧ vp_in x2 np ∧ x1 < 2 ∧ (I (95 + 4 * x2.toNatClampNeg) 3) = (-1) ∧ (lc x2.toNatClampNeg) < 2 ∧ (sI (sI I1 136 0 0) 136 0 3) = I2 ∧ L1 = L2) ∨ (vp_in x1 8 ∧ vp_in x2 np ∧ x1 < 2 ∧ (I (95 + 4 * x2.toNatClampNeg) 3) = (-1) ∧ ¬ (lc x2.toNatClampNeg) < 2 ∧ (gsm (I (97 + 4 * x2.toNatClampNeg)) (lc x2.toNatClampNeg)) = 0 ∧ (sI (sI (sI I1 136 0 0) 136 0 0) 140 x2.toNatClampNeg x1) = I2 ∧ L1 = L2) ∨ (vp_in x1 8 ∧ vp_in x2 np ∧ x1 < 2 ∧ (I (95 + 4 * x2.toNatClampNeg) 3) = (-1) ∧ ¬ (lc x2.toNatClampNeg) < 2 ∧ ¬ ((gsm (I (97 + 4 * x2.toNatClampNeg)) (lc x2.toNatClampNeg)) = 0) ∧ (sI (sI I1 136 0 0) 136 0 3) = I2 ∧ L1 = L2) ∨ (vp_in x1 8 ∧ vp_in x2 np ∧ ¬ (x1 < 2) ∧ (sI I1 136 0 2) = I2 ∧ L1 = L2) ∨ (vp_in x1 8 ∧ ¬ vp_in x2 np ∧ (sI I1 136 0 1) = I2 ∧ L1 = L2) ∨ (¬ vp_in x1 8 ∧ (sI I1 136 0 1) = I2 ∧ L1 = L2) := by
  have hI0 : ∀ k, 136 < k → I1 k = I k := fun k hk => hI k (by omega)
  have hIs : ∀ k, 136 < k → (sI I1 136 0 0) k = I k := fun k hk => (s_row rfl k hk).trans (hI k (by omega))
  rcases hm with ⟨m0, m1, m2, m3, e0, e1⟩ | ⟨m0, m1, m2, m3, m4, e0, e1⟩ | ⟨m0, m1, m2, m3, m4, m5, e0, e1⟩ | ⟨m0, m1, m2, m3, m4, m5, e0, e1⟩ | ⟨m0, m1, m2, e0, e1⟩ | ⟨m0, m1, e0, e1⟩ | ⟨m0, e0, e1⟩
  · exact Or.inl (⟨m0, m1, (b_off m0).mp m2, (b_cer h hI0 (vp_ix m1).2).mp m3, e0, e1⟩)
  · exact Or.inr (Or.inl (⟨m0, m1, (b_off m0).mp m2, Decidable.not_not.mp (fun z => m3 ((b_cer h hI0 (vp_ix m1).2).mpr z)), (by have u := (vp_ix m1).2; have := h.np10; have := h.lc4 x2.toNatClampNeg (by omega); have := h.lc1 _ u; omega), e0, e1⟩))
  · exact Or.inr (Or.inr (Or.inl (⟨m0, m1, (b_off m0).mp m2, Decidable.not_not.mp (fun z => m3 ((b_cer h hI0 (vp_ix m1).2).mpr z)), (by have u := (vp_ix m1).2; have := h.np10; have := h.lc4 x2.toNatClampNeg (by omega); have := h.lc1 _ u; omega), (show (gsm (gmS (sI I1 136 0 0) x2.toNatClampNeg) (lc x2.toNatClampNeg)) = 0 ↔ (gsm (I (97 + 4 * x2.toNatClampNeg)) (lc x2.toNatClampNeg)) = 0 by rw [b_sum h hIs (Nat.lt_of_lt_of_le (vp_ix m1).2 h.np10)]).mp m5, e0, e1⟩)))
  · exact Or.inr (Or.inr (Or.inr (Or.inl (⟨m0, m1, (b_off m0).mp m2, Decidable.not_not.mp (fun z => m3 ((b_cer h hI0 (vp_ix m1).2).mpr z)), (by have u := (vp_ix m1).2; have := h.np10; have := h.lc4 x2.toNatClampNeg (by omega); have := h.lc1 _ u; omega), fun z => m5 ((show (gsm (gmS (sI I1 136 0 0) x2.toNatClampNeg) (lc x2.toNatClampNeg)) = 0 ↔ (gsm (I (97 + 4 * x2.toNatClampNeg)) (lc x2.toNatClampNeg)) = 0 by rw [b_sum h hIs (Nat.lt_of_lt_of_le (vp_ix m1).2 h.np10)]).mpr z), e0, e1⟩))))
  · exact Or.inr (Or.inr (Or.inr (Or.inr (Or.inl (⟨m0, m1, fun z => m2 ((b_off m0).mpr z), e0, e1⟩)))))
  · exact Or.inr (Or.inr (Or.inr (Or.inr (Or.inr (Or.inl (⟨m0, m1, e0, e1⟩))))))
  · exact Or.inr (Or.inr (Or.inr (Or.inr (Or.inr (Or.inr ((⟨m0, e0, e1⟩)))))))
set_option maxHeartbeats 8000000 in
theorem op_certify {np ne : Nat} {lc : Nat → Nat} {I I1 : MI} {L L1 : ML} {x1 : Int32} {x2 : Int32} (h : Inv np ne lc I L) {k : Int32} (hc : pq_L_certify np lc x1 x2 I L k I1 L1) : iRI I I1 ∧ ∀ (I2 : MI) (L2 : ML), pq_X4_certify np lc x1 x2 I1 L1 I2 L2 → iO k True I2 L2 := by
  have h40 := h.ne40
  have h10 := h.np10
  rcases hc with (⟨(⟨c0, c1, c2, c3, c4, c5, rfl, rfl⟩), rfl⟩) | ⟨(⟨c0, cE, rfl, rfl⟩ | ⟨c0, c1, cE, rfl, rfl⟩ | ⟨c0, c1, c2, cE, rfl, rfl⟩ | ⟨c0, c1, c2, c3, c4, cE, rfl, rfl⟩ | ⟨c0, c1, c2, c3, c4, c5, cE, rfl, rfl⟩ | ⟨c0, c1, c2, c3, cE, rfl, rfl⟩), rfl⟩ | ⟨(⟨c0, cE, rfl, rfl⟩ | ⟨c0, c1, cE, rfl, rfl⟩ | ⟨c0, c1, c2, cE, rfl, rfl⟩ | ⟨c0, c1, c2, c3, c4, cE, rfl, rfl⟩ | ⟨c0, c1, c2, c3, c4, c5, cE, rfl, rfl⟩ | ⟨c0, c1, c2, c3, cE, rfl, rfl⟩), rfl⟩ | ⟨(⟨c0, cE, rfl, rfl⟩ | ⟨c0, c1, cE, rfl, rfl⟩ | ⟨c0, c1, c2, cE, rfl, rfl⟩ | ⟨c0, c1, c2, c3, c4, cE, rfl, rfl⟩ | ⟨c0, c1, c2, c3, c4, c5, cE, rfl, rfl⟩ | ⟨c0, c1, c2, c3, cE, rfl, rfl⟩), rfl⟩
  · have u0 := (vp_ix c0).2; have u1 := (vp_ix c1).2
    refine ⟨fun c hc => by (first | rfl | (simp (disch := omega) only [sI_row])), fun I2 L2 hm => ?_⟩
    have hm := mn_certify h (fun c hc => by (first | rfl | (simp (disch := omega) only [sI_row]))) (fun c hc => by (first | rfl | (simp (disch := omega) only [sL_row, gSS_o, gsc_o, gPW_0, gcp_o, gRL_o, gRS_o, gRM_o, gRT_o, va_up_ne]))) hm
    rcases hm with ⟨m0, m1, m2, m3, rfl, rfl⟩ | ⟨m0, m1, m2, m3, m4, rfl, rfl⟩ | ⟨m0, m1, m2, m3, m4, m5, rfl, rfl⟩ | ⟨m0, m1, m2, m3, m4, m5, rfl, rfl⟩ | ⟨m0, m1, m2, rfl, rfl⟩ | ⟨m0, m1, rfl, rfl⟩ | ⟨m0, rfl, rfl⟩
    all_goals first | contradiction | (exact ⟨by (simp (disch := omega) only [sI_at, sL_at, true_and, and_true, and_self, if_true, if_neg, if_pos]), fun _ => trivial, np, ne, lc, Inv.certify h (vp_ix m1).2 m0⟩)
  · refine ⟨fun c hc => by (first | rfl | (simp (disch := omega) only [sI_row])), fun I2 L2 hm => ?_⟩
    have hm := mn_certify h (fun c hc => by (first | rfl | (simp (disch := omega) only [sI_row]))) (fun c hc => by (first | rfl | (simp (disch := omega) only [sL_row, gSS_o, gsc_o, gPW_0, gcp_o, gRL_o, gRS_o, gRM_o, gRT_o, va_up_ne]))) hm
    rcases hm with ⟨m0, m1, m2, m3, rfl, rfl⟩ | ⟨m0, m1, m2, m3, m4, rfl, rfl⟩ | ⟨m0, m1, m2, m3, m4, m5, rfl, rfl⟩ | ⟨m0, m1, m2, m3, m4, m5, rfl, rfl⟩ | ⟨m0, m1, m2, rfl, rfl⟩ | ⟨m0, m1, rfl, rfl⟩ | ⟨m0, rfl, rfl⟩
    all_goals first | contradiction | (exact iO_t h (by decide) (by (simp (disch := omega) only [sI_at, sL_at, true_and, and_true, and_self, if_true, if_neg, if_pos])) (fun c j hc => by (simp (disch := omega) only [sI_at, sL_at, true_and, and_true, and_self, if_true, if_neg, if_pos])) (fun c h1 h2 h3 => by (first | rfl | (simp (disch := omega) only [sL_row, gSS_o, gsc_o, gPW_0, gcp_o, gRL_o, gRS_o, gRM_o, gRT_o, va_up_ne]))))
  · refine ⟨fun c hc => by (first | rfl | (simp (disch := omega) only [sI_row])), fun I2 L2 hm => ?_⟩
    have hm := mn_certify h (fun c hc => by (first | rfl | (simp (disch := omega) only [sI_row]))) (fun c hc => by (first | rfl | (simp (disch := omega) only [sL_row, gSS_o, gsc_o, gPW_0, gcp_o, gRL_o, gRS_o, gRM_o, gRT_o, va_up_ne]))) hm
    rcases hm with ⟨m0, m1, m2, m3, rfl, rfl⟩ | ⟨m0, m1, m2, m3, m4, rfl, rfl⟩ | ⟨m0, m1, m2, m3, m4, m5, rfl, rfl⟩ | ⟨m0, m1, m2, m3, m4, m5, rfl, rfl⟩ | ⟨m0, m1, m2, rfl, rfl⟩ | ⟨m0, m1, rfl, rfl⟩ | ⟨m0, rfl, rfl⟩
    all_goals first | contradiction | (exact iO_t h (by decide) (by (simp (disch := omega) only [sI_at, sL_at, true_and, and_true, and_self, if_true, if_neg, if_pos])) (fun c j hc => by (simp (disch := omega) only [sI_at, sL_at, true_and, and_true, and_self, if_true, if_neg, if_pos])) (fun c h1 h2 h3 => by (first | rfl | (simp (disch := omega) only [sL_row, gSS_o, gsc_o, gPW_0, gcp_o, gRL_o, gRS_o, gRM_o, gRT_o, va_up_ne]))))
  · exact absurd cE (by decide)
  · exact absurd cE (by decide)
  · exact absurd cE (by decide)
  · exact absurd cE (by decide)
  · exact absurd cE (by decide)
  · exact absurd cE (by decide)
  · refine ⟨fun c hc => by (first | rfl | (simp (disch := omega) only [sI_row])), fun I2 L2 hm => ?_⟩
    have hm := mn_certify h (fun c hc => by (first | rfl | (simp (disch := omega) only [sI_row]))) (fun c hc => by (first | rfl | (simp (disch := omega) only [sL_row, gSS_o, gsc_o, gPW_0, gcp_o, gRL_o, gRS_o, gRM_o, gRT_o, va_up_ne]))) hm
    rcases hm with ⟨m0, m1, m2, m3, rfl, rfl⟩ | ⟨m0, m1, m2, m3, m4, rfl, rfl⟩ | ⟨m0, m1, m2, m3, m4, m5, rfl, rfl⟩ | ⟨m0, m1, m2, m3, m4, m5, rfl, rfl⟩ | ⟨m0, m1, m2, rfl, rfl⟩ | ⟨m0, m1, rfl, rfl⟩ | ⟨m0, rfl, rfl⟩
    all_goals first | contradiction | (exact iO_t h (by decide) (by (simp (disch := omega) only [sI_at, sL_at, true_and, and_true, and_self, if_true, if_neg, if_pos])) (fun c j hc => by (simp (disch := omega) only [sI_at, sL_at, true_and, and_true, and_self, if_true, if_neg, if_pos])) (fun c h1 h2 h3 => by (first | rfl | (simp (disch := omega) only [sL_row, gSS_o, gsc_o, gPW_0, gcp_o, gRL_o, gRS_o, gRM_o, gRT_o, va_up_ne]))))
  · exact absurd cE (by decide)
  · exact absurd cE (by decide)
  · exact absurd cE (by decide)
  · exact absurd cE (by decide)
  · exact absurd cE (by decide)
  · exact absurd cE (by decide)
  · refine ⟨fun c hc => by (first | rfl | (simp (disch := omega) only [sI_row])), fun I2 L2 hm => ?_⟩
    have hm := mn_certify h (fun c hc => by (first | rfl | (simp (disch := omega) only [sI_row]))) (fun c hc => by (first | rfl | (simp (disch := omega) only [sL_row, gSS_o, gsc_o, gPW_0, gcp_o, gRL_o, gRS_o, gRM_o, gRT_o, va_up_ne]))) hm
    rcases hm with ⟨m0, m1, m2, m3, rfl, rfl⟩ | ⟨m0, m1, m2, m3, m4, rfl, rfl⟩ | ⟨m0, m1, m2, m3, m4, m5, rfl, rfl⟩ | ⟨m0, m1, m2, m3, m4, m5, rfl, rfl⟩ | ⟨m0, m1, m2, rfl, rfl⟩ | ⟨m0, m1, rfl, rfl⟩ | ⟨m0, rfl, rfl⟩
    all_goals first | contradiction | (exact iO_t h (by decide) (by (simp (disch := omega) only [sI_at, sL_at, true_and, and_true, and_self, if_true, if_neg, if_pos])) (fun c j hc => by (simp (disch := omega) only [sI_at, sL_at, true_and, and_true, and_self, if_true, if_neg, if_pos])) (fun c h1 h2 h3 => by (first | rfl | (simp (disch := omega) only [sL_row, gSS_o, gsc_o, gPW_0, gcp_o, gRL_o, gRS_o, gRM_o, gRT_o, va_up_ne]))))
  · refine ⟨fun c hc => by (first | rfl | (simp (disch := omega) only [sI_row])), fun I2 L2 hm => ?_⟩
    have hm := mn_certify h (fun c hc => by (first | rfl | (simp (disch := omega) only [sI_row]))) (fun c hc => by (first | rfl | (simp (disch := omega) only [sL_row, gSS_o, gsc_o, gPW_0, gcp_o, gRL_o, gRS_o, gRM_o, gRT_o, va_up_ne]))) hm
    rcases hm with ⟨m0, m1, m2, m3, rfl, rfl⟩ | ⟨m0, m1, m2, m3, m4, rfl, rfl⟩ | ⟨m0, m1, m2, m3, m4, m5, rfl, rfl⟩ | ⟨m0, m1, m2, m3, m4, m5, rfl, rfl⟩ | ⟨m0, m1, m2, rfl, rfl⟩ | ⟨m0, m1, rfl, rfl⟩ | ⟨m0, rfl, rfl⟩
    all_goals first | contradiction | (exact iO_t h (by decide) (by (simp (disch := omega) only [sI_at, sL_at, true_and, and_true, and_self, if_true, if_neg, if_pos])) (fun c j hc => by (simp (disch := omega) only [sI_at, sL_at, true_and, and_true, and_self, if_true, if_neg, if_pos])) (fun c h1 h2 h3 => by (first | rfl | (simp (disch := omega) only [sL_row, gSS_o, gsc_o, gPW_0, gcp_o, gRL_o, gRS_o, gRM_o, gRT_o, va_up_ne]))))
  · refine ⟨fun c hc => by (first | rfl | (simp (disch := omega) only [sI_row])), fun I2 L2 hm => ?_⟩
    have hm := mn_certify h (fun c hc => by (first | rfl | (simp (disch := omega) only [sI_row]))) (fun c hc => by (first | rfl | (simp (disch := omega) only [sL_row, gSS_o, gsc_o, gPW_0, gcp_o, gRL_o, gRS_o, gRM_o, gRT_o, va_up_ne]))) hm
    rcases hm with ⟨m0, m1, m2, m3, rfl, rfl⟩ | ⟨m0, m1, m2, m3, m4, rfl, rfl⟩ | ⟨m0, m1, m2, m3, m4, m5, rfl, rfl⟩ | ⟨m0, m1, m2, m3, m4, m5, rfl, rfl⟩ | ⟨m0, m1, m2, rfl, rfl⟩ | ⟨m0, m1, rfl, rfl⟩ | ⟨m0, rfl, rfl⟩
    all_goals first | contradiction | (exact iO_t h (by decide) (by (simp (disch := omega) only [sI_at, sL_at, true_and, and_true, and_self, if_true, if_neg, if_pos])) (fun c j hc => by (simp (disch := omega) only [sI_at, sL_at, true_and, and_true, and_self, if_true, if_neg, if_pos])) (fun c h1 h2 h3 => by (first | rfl | (simp (disch := omega) only [sL_row, gSS_o, gsc_o, gPW_0, gcp_o, gRL_o, gRS_o, gRM_o, gRT_o, va_up_ne]))))
set_option maxHeartbeats 4000000 in
theorem mn_grant {np ne : Nat} {lc : Nat → Nat} {I I1 I2 : MI} {L L1 L2 : ML} {x1 : Int32} {x2 : Int32} {x3 : Int32} {x4 : Int32} (h : Inv np ne lc I L) (hI : iRI I I1) (hL : iRL L L1) {b : Int32} (hm : pq_X4_grant np x1 x2 x3 x4 I1 L1 b I2 L2) : (vp_in x1 8 ∧ vp_in x2 8 ∧ vp_in x3 np ∧ x1 < 2 ∧ ¬ x1.toNatClampNeg = x2.toNatClampNeg ∧ (I (98 + 4 * x3.toNatClampNeg) x2.toNatClampNeg) = x4 ∧ (0 : Int32) = b ∧ (sI (sI I1 136 0 0) 143 ((8 * x3.toNatClampNeg) + x2.toNatClampNeg) x4) = I2 ∧ L1 = L2) ∨ (vp_in x1 8 ∧ vp_in x2 8 ∧ vp_in x3 np ∧ x1 < 2 ∧ ¬ x1.toNatClampNeg = x2.toNatClampNeg ∧ ¬ ((I (98 + 4 * x3.toNatClampNeg) x2.toNatClampNeg) = x4) ∧ (1 : Int32) = b ∧ (sI (sI I1 136 0 0) 143 ((8 * x3.toNatClampNeg) + x2.toNatClampNeg) x4) = I2 ∧ L1 = L2) ∨ (vp_in x1 8 ∧ vp_in x2 8 ∧ vp_in x3 np ∧ x1 < 2 ∧ x1.toNatClampNeg = x2.toNatClampNeg ∧ (0 : Int32) = b ∧ (sI I1 136 0 2) = I2 ∧ L1 = L2) ∨ (vp_in x1 8 ∧ vp_in x2 8 ∧ vp_in x3 np ∧ ¬ (x1 < 2) ∧ (0 : Int32) = b ∧ (sI I1 136 0 2) = I2 ∧ L1 = L2) ∨ (vp_in x1 8 ∧ vp_in x2 8 ∧ ¬ vp_in x3 np ∧ (0 : Int32) = b ∧ (sI I1 136 0 1) = I2 ∧ L1 = L2) ∨ (vp_in x1 8 ∧ ¬ vp_in x2 8 ∧ (0 : Int32) = b ∧ (sI I1 136 0 1) = I2 ∧ L1 = L2) ∨ (¬ vp_in x1 8 ∧ (0 : Int32) = b ∧ (sI I1 136 0 1) = I2 ∧ L1 = L2) := by
  have hI0 : ∀ k, 136 < k → I1 k = I k := fun k hk => hI k (by omega)
  have hIs : ∀ k, 136 < k → (sI I1 136 0 0) k = I k := fun k hk => (s_row rfl k hk).trans (hI k (by omega))
  rcases hm with ⟨m0, m1, m2, m3, m4, m5, e0, e1, e2⟩ | ⟨m0, m1, m2, m3, m4, m5, e0, e1, e2⟩ | ⟨m0, m1, m2, m3, m4, e0, e1, e2⟩ | ⟨m0, m1, m2, m3, e0, e1, e2⟩ | ⟨m0, m1, m2, e0, e1, e2⟩ | ⟨m0, m1, e0, e1, e2⟩ | ⟨m0, e0, e1, e2⟩
  · exact Or.inl (⟨m0, m1, m2, (b_off m0).mp m3, m4, (b_gr h hI0 m1 m2).mp m5, e0, e1, e2⟩)
  · exact Or.inr (Or.inl (⟨m0, m1, m2, (b_off m0).mp m3, m4, fun z => m5 ((b_gr h hI0 m1 m2).mpr z), e0, e1, e2⟩))
  · exact Or.inr (Or.inr (Or.inl (⟨m0, m1, m2, (b_off m0).mp m3, m4, e0, e1, e2⟩)))
  · exact Or.inr (Or.inr (Or.inr (Or.inl (⟨m0, m1, m2, fun z => m3 ((b_off m0).mpr z), e0, e1, e2⟩))))
  · exact Or.inr (Or.inr (Or.inr (Or.inr (Or.inl (⟨m0, m1, m2, e0, e1, e2⟩)))))
  · exact Or.inr (Or.inr (Or.inr (Or.inr (Or.inr (Or.inl (⟨m0, m1, e0, e1, e2⟩))))))
  · exact Or.inr (Or.inr (Or.inr (Or.inr (Or.inr (Or.inr ((⟨m0, e0, e1, e2⟩)))))))
set_option maxHeartbeats 8000000 in
theorem op_grant {np ne : Nat} {lc : Nat → Nat} {I I1 : MI} {L L1 : ML} {x1 : Int32} {x2 : Int32} {x3 : Int32} {x4 : Int32} (h : Inv np ne lc I L) {k : Int32} (hc : pq_L_grant np x1 x2 x3 x4 I L k I1 L1) : iRI I I1 ∧ ∀ (b : Int32) (I2 : MI) (L2 : ML), pq_X4_grant np x1 x2 x3 x4 I1 L1 b I2 L2 → iO k (L2 135 0 = (if b = 0 then 0 else 1)) I2 L2 := by
  have h40 := h.ne40
  have h10 := h.np10
  rcases hc with (⟨v, L9, (⟨c0, c1, c2, c3, c4, c5, rfl, rfl, rfl⟩ | ⟨c0, c1, c2, c3, c4, c5, rfl, rfl, rfl⟩), rfl, rfl⟩) | ⟨(⟨c0, cE, rfl, rfl⟩ | ⟨c0, c1, cE, rfl, rfl⟩ | ⟨c0, c1, c2, cE, rfl, rfl⟩ | ⟨c0, c1, c2, c3, cE, rfl, rfl⟩ | ⟨c0, c1, c2, c3, c4, cE, rfl, rfl⟩), rfl⟩ | ⟨(⟨c0, cE, rfl, rfl⟩ | ⟨c0, c1, cE, rfl, rfl⟩ | ⟨c0, c1, c2, cE, rfl, rfl⟩ | ⟨c0, c1, c2, c3, cE, rfl, rfl⟩ | ⟨c0, c1, c2, c3, c4, cE, rfl, rfl⟩), rfl⟩
  · have u0 := (vp_ix c0).2; have u1 := (vp_ix c1).2; have u2 := (vp_ix c2).2
    refine ⟨fun c hc => by (first | rfl | (simp (disch := omega) only [sI_row])), fun b I2 L2 hm => ?_⟩
    have hm := mn_grant h (fun c hc => by (first | rfl | (simp (disch := omega) only [sI_row]))) (fun c hc => by (first | rfl | (simp (disch := omega) only [sL_row, gSS_o, gsc_o, gPW_0, gcp_o, gRL_o, gRS_o, gRM_o, gRT_o, va_up_ne]))) hm
    rcases hm with ⟨m0, m1, m2, m3, m4, m5, rfl, rfl, rfl⟩ | ⟨m0, m1, m2, m3, m4, m5, rfl, rfl, rfl⟩ | ⟨m0, m1, m2, m3, m4, rfl, rfl, rfl⟩ | ⟨m0, m1, m2, m3, rfl, rfl, rfl⟩ | ⟨m0, m1, m2, rfl, rfl, rfl⟩ | ⟨m0, m1, rfl, rfl, rfl⟩ | ⟨m0, rfl, rfl, rfl⟩
    all_goals first | contradiction | (exact ⟨by (simp (disch := omega) only [sI_at, sL_at, true_and, and_true, and_self, if_true, if_neg, if_pos]), fun _ => by (simp (disch := omega) only [sI_at, sL_at, true_and, and_true, and_self, if_true, if_neg, if_pos]), np, ne, lc, Inv.grant h (vp_ix m2).2 (vp_ix m1).2⟩)
  · have u0 := (vp_ix c0).2; have u1 := (vp_ix c1).2; have u2 := (vp_ix c2).2
    refine ⟨fun c hc => by (first | rfl | (simp (disch := omega) only [sI_row])), fun b I2 L2 hm => ?_⟩
    have hm := mn_grant h (fun c hc => by (first | rfl | (simp (disch := omega) only [sI_row]))) (fun c hc => by (first | rfl | (simp (disch := omega) only [sL_row, gSS_o, gsc_o, gPW_0, gcp_o, gRL_o, gRS_o, gRM_o, gRT_o, va_up_ne]))) hm
    rcases hm with ⟨m0, m1, m2, m3, m4, m5, rfl, rfl, rfl⟩ | ⟨m0, m1, m2, m3, m4, m5, rfl, rfl, rfl⟩ | ⟨m0, m1, m2, m3, m4, rfl, rfl, rfl⟩ | ⟨m0, m1, m2, m3, rfl, rfl, rfl⟩ | ⟨m0, m1, m2, rfl, rfl, rfl⟩ | ⟨m0, m1, rfl, rfl, rfl⟩ | ⟨m0, rfl, rfl, rfl⟩
    all_goals first | contradiction | (exact ⟨by (simp (disch := omega) only [sI_at, sL_at, true_and, and_true, and_self, if_true, if_neg, if_pos]), fun _ => by (simp (disch := omega) only [sI_at, sL_at, true_and, and_true, and_self, if_true, if_neg, if_pos]), np, ne, lc, Inv.grant h (vp_ix m2).2 (vp_ix m1).2⟩)
  · refine ⟨fun c hc => by (first | rfl | (simp (disch := omega) only [sI_row])), fun b I2 L2 hm => ?_⟩
    have hm := mn_grant h (fun c hc => by (first | rfl | (simp (disch := omega) only [sI_row]))) (fun c hc => by (first | rfl | (simp (disch := omega) only [sL_row, gSS_o, gsc_o, gPW_0, gcp_o, gRL_o, gRS_o, gRM_o, gRT_o, va_up_ne]))) hm
    rcases hm with ⟨m0, m1, m2, m3, m4, m5, rfl, rfl, rfl⟩ | ⟨m0, m1, m2, m3, m4, m5, rfl, rfl, rfl⟩ | ⟨m0, m1, m2, m3, m4, rfl, rfl, rfl⟩ | ⟨m0, m1, m2, m3, rfl, rfl, rfl⟩ | ⟨m0, m1, m2, rfl, rfl, rfl⟩ | ⟨m0, m1, rfl, rfl, rfl⟩ | ⟨m0, rfl, rfl, rfl⟩
    all_goals first | contradiction | (exact iO_t h (by decide) (by (simp (disch := omega) only [sI_at, sL_at, true_and, and_true, and_self, if_true, if_neg, if_pos])) (fun c j hc => by (simp (disch := omega) only [sI_at, sL_at, true_and, and_true, and_self, if_true, if_neg, if_pos])) (fun c h1 h2 h3 => by (first | rfl | (simp (disch := omega) only [sL_row, gSS_o, gsc_o, gPW_0, gcp_o, gRL_o, gRS_o, gRM_o, gRT_o, va_up_ne]))))
  · refine ⟨fun c hc => by (first | rfl | (simp (disch := omega) only [sI_row])), fun b I2 L2 hm => ?_⟩
    have hm := mn_grant h (fun c hc => by (first | rfl | (simp (disch := omega) only [sI_row]))) (fun c hc => by (first | rfl | (simp (disch := omega) only [sL_row, gSS_o, gsc_o, gPW_0, gcp_o, gRL_o, gRS_o, gRM_o, gRT_o, va_up_ne]))) hm
    rcases hm with ⟨m0, m1, m2, m3, m4, m5, rfl, rfl, rfl⟩ | ⟨m0, m1, m2, m3, m4, m5, rfl, rfl, rfl⟩ | ⟨m0, m1, m2, m3, m4, rfl, rfl, rfl⟩ | ⟨m0, m1, m2, m3, rfl, rfl, rfl⟩ | ⟨m0, m1, m2, rfl, rfl, rfl⟩ | ⟨m0, m1, rfl, rfl, rfl⟩ | ⟨m0, rfl, rfl, rfl⟩
    all_goals first | contradiction | (exact iO_t h (by decide) (by (simp (disch := omega) only [sI_at, sL_at, true_and, and_true, and_self, if_true, if_neg, if_pos])) (fun c j hc => by (simp (disch := omega) only [sI_at, sL_at, true_and, and_true, and_self, if_true, if_neg, if_pos])) (fun c h1 h2 h3 => by (first | rfl | (simp (disch := omega) only [sL_row, gSS_o, gsc_o, gPW_0, gcp_o, gRL_o, gRS_o, gRM_o, gRT_o, va_up_ne]))))
  · refine ⟨fun c hc => by (first | rfl | (simp (disch := omega) only [sI_row])), fun b I2 L2 hm => ?_⟩
    have hm := mn_grant h (fun c hc => by (first | rfl | (simp (disch := omega) only [sI_row]))) (fun c hc => by (first | rfl | (simp (disch := omega) only [sL_row, gSS_o, gsc_o, gPW_0, gcp_o, gRL_o, gRS_o, gRM_o, gRT_o, va_up_ne]))) hm
    rcases hm with ⟨m0, m1, m2, m3, m4, m5, rfl, rfl, rfl⟩ | ⟨m0, m1, m2, m3, m4, m5, rfl, rfl, rfl⟩ | ⟨m0, m1, m2, m3, m4, rfl, rfl, rfl⟩ | ⟨m0, m1, m2, m3, rfl, rfl, rfl⟩ | ⟨m0, m1, m2, rfl, rfl, rfl⟩ | ⟨m0, m1, rfl, rfl, rfl⟩ | ⟨m0, rfl, rfl, rfl⟩
    all_goals first | contradiction | (exact iO_t h (by decide) (by (simp (disch := omega) only [sI_at, sL_at, true_and, and_true, and_self, if_true, if_neg, if_pos])) (fun c j hc => by (simp (disch := omega) only [sI_at, sL_at, true_and, and_true, and_self, if_true, if_neg, if_pos])) (fun c h1 h2 h3 => by (first | rfl | (simp (disch := omega) only [sL_row, gSS_o, gsc_o, gPW_0, gcp_o, gRL_o, gRS_o, gRM_o, gRT_o, va_up_ne]))))
  · exact absurd cE (by decide)
  · exact absurd cE (by decide)
  · exact absurd cE (by decide)
  · exact absurd cE (by decide)
  · exact absurd cE (by decide)
  · refine ⟨fun c hc => by (first | rfl | (simp (disch := omega) only [sI_row])), fun b I2 L2 hm => ?_⟩
    have hm := mn_grant h (fun c hc => by (first | rfl | (simp (disch := omega) only [sI_row]))) (fun c hc => by (first | rfl | (simp (disch := omega) only [sL_row, gSS_o, gsc_o, gPW_0, gcp_o, gRL_o, gRS_o, gRM_o, gRT_o, va_up_ne]))) hm
    rcases hm with ⟨m0, m1, m2, m3, m4, m5, rfl, rfl, rfl⟩ | ⟨m0, m1, m2, m3, m4, m5, rfl, rfl, rfl⟩ | ⟨m0, m1, m2, m3, m4, rfl, rfl, rfl⟩ | ⟨m0, m1, m2, m3, rfl, rfl, rfl⟩ | ⟨m0, m1, m2, rfl, rfl, rfl⟩ | ⟨m0, m1, rfl, rfl, rfl⟩ | ⟨m0, rfl, rfl, rfl⟩
    all_goals first | contradiction | (exact iO_t h (by decide) (by (simp (disch := omega) only [sI_at, sL_at, true_and, and_true, and_self, if_true, if_neg, if_pos])) (fun c j hc => by (simp (disch := omega) only [sI_at, sL_at, true_and, and_true, and_self, if_true, if_neg, if_pos])) (fun c h1 h2 h3 => by (first | rfl | (simp (disch := omega) only [sL_row, gSS_o, gsc_o, gPW_0, gcp_o, gRL_o, gRS_o, gRM_o, gRT_o, va_up_ne]))))
  · refine ⟨fun c hc => by (first | rfl | (simp (disch := omega) only [sI_row])), fun b I2 L2 hm => ?_⟩
    have hm := mn_grant h (fun c hc => by (first | rfl | (simp (disch := omega) only [sI_row]))) (fun c hc => by (first | rfl | (simp (disch := omega) only [sL_row, gSS_o, gsc_o, gPW_0, gcp_o, gRL_o, gRS_o, gRM_o, gRT_o, va_up_ne]))) hm
    rcases hm with ⟨m0, m1, m2, m3, m4, m5, rfl, rfl, rfl⟩ | ⟨m0, m1, m2, m3, m4, m5, rfl, rfl, rfl⟩ | ⟨m0, m1, m2, m3, m4, rfl, rfl, rfl⟩ | ⟨m0, m1, m2, m3, rfl, rfl, rfl⟩ | ⟨m0, m1, m2, rfl, rfl, rfl⟩ | ⟨m0, m1, rfl, rfl, rfl⟩ | ⟨m0, rfl, rfl, rfl⟩
    all_goals first | contradiction | (exact iO_t h (by decide) (by (simp (disch := omega) only [sI_at, sL_at, true_and, and_true, and_self, if_true, if_neg, if_pos])) (fun c j hc => by (simp (disch := omega) only [sI_at, sL_at, true_and, and_true, and_self, if_true, if_neg, if_pos])) (fun c h1 h2 h3 => by (first | rfl | (simp (disch := omega) only [sL_row, gSS_o, gsc_o, gPW_0, gcp_o, gRL_o, gRS_o, gRM_o, gRT_o, va_up_ne]))))
set_option maxHeartbeats 4000000 in
theorem mn_floor {np ne : Nat} {lc : Nat → Nat} {I I1 I2 : MI} {L L1 L2 : ML} {x1 : Int32} {x2 : Int32} {x3 : Int64} (h : Inv np ne lc I L) (hI : iRI I I1) (hL : iRL L L1) {b : Int64} (hm : pq_X4_floor x1 x2 x3 I1 L1 b I2 L2) : (vp_in x1 8 ∧ vp_in x2 8 ∧ x1 < 2 ∧ x3 < (-1000000000000) ∧ (0 : Int64) = b ∧ (sI I1 136 0 3) = I2 ∧ L1 = L2) ∨ (vp_in x1 8 ∧ vp_in x2 8 ∧ x1 < 2 ∧ ¬ x3 < (-1000000000000) ∧ x3 ≤ 1000000000000 ∧ L1 138 x2.toNatClampNeg = b ∧ (sI I1 136 0 0) = I2 ∧ (sL L1 138 x2.toNatClampNeg x3) = L2) ∨ (vp_in x1 8 ∧ vp_in x2 8 ∧ x1 < 2 ∧ ¬ x3 < (-1000000000000) ∧ ¬ x3 ≤ 1000000000000 ∧ (0 : Int64) = b ∧ (sI I1 136 0 3) = I2 ∧ L1 = L2) ∨ (vp_in x1 8 ∧ vp_in x2 8 ∧ ¬ (x1 < 2) ∧ (0 : Int64) = b ∧ (sI I1 136 0 2) = I2 ∧ L1 = L2) ∨ (vp_in x1 8 ∧ ¬ vp_in x2 8 ∧ (0 : Int64) = b ∧ (sI I1 136 0 1) = I2 ∧ L1 = L2) ∨ (¬ vp_in x1 8 ∧ (0 : Int64) = b ∧ (sI I1 136 0 1) = I2 ∧ L1 = L2) := by
  have hI0 : ∀ k, 136 < k → I1 k = I k := fun k hk => hI k (by omega)
  have hIs : ∀ k, 136 < k → (sI I1 136 0 0) k = I k := fun k hk => (s_row rfl k hk).trans (hI k (by omega))
  rcases hm with ⟨m0, m1, m2, m3, e0, e1, e2⟩ | ⟨m0, m1, m2, m3, m4, e0, e1, e2⟩ | ⟨m0, m1, m2, m3, m4, e0, e1, e2⟩ | ⟨m0, m1, m2, e0, e1, e2⟩ | ⟨m0, m1, e0, e1, e2⟩ | ⟨m0, e0, e1, e2⟩
  · exact Or.inl (⟨m0, m1, (b_off m0).mp m2, m3, e0, e1, e2⟩)
  · exact Or.inr (Or.inl (⟨m0, m1, (b_off m0).mp m2, m3, m4, e0, e1, e2⟩))
  · exact Or.inr (Or.inr (Or.inl (⟨m0, m1, (b_off m0).mp m2, m3, m4, e0, e1, e2⟩)))
  · exact Or.inr (Or.inr (Or.inr (Or.inl (⟨m0, m1, fun z => m2 ((b_off m0).mpr z), e0, e1, e2⟩))))
  · exact Or.inr (Or.inr (Or.inr (Or.inr (Or.inl (⟨m0, m1, e0, e1, e2⟩)))))
  · exact Or.inr (Or.inr (Or.inr (Or.inr (Or.inr ((⟨m0, e0, e1, e2⟩))))))
set_option maxHeartbeats 8000000 in
theorem op_floor {np ne : Nat} {lc : Nat → Nat} {I I1 : MI} {L L1 : ML} {x1 : Int32} {x2 : Int32} {x3 : Int64} (h : Inv np ne lc I L) {k : Int32} (hc : pq_L_floor x1 x2 x3 I L k I1 L1) : iRI I I1 ∧ ∀ (b : Int64) (I2 : MI) (L2 : ML), pq_X4_floor x1 x2 x3 I1 L1 b I2 L2 → iO k (L2 135 0 = b) I2 L2 := by
  have h40 := h.ne40
  have h10 := h.np10
  rcases hc with (⟨v, L9, (⟨c0, c1, c2, c3, c4, rfl, rfl, rfl⟩), rfl, rfl⟩) | ⟨(⟨c0, cE, rfl, rfl⟩ | ⟨c0, c1, cE, rfl, rfl⟩ | ⟨c0, c1, c2, cE, rfl, rfl⟩ | ⟨c0, c1, c2, c3, cE, rfl, rfl⟩ | ⟨c0, c1, c2, c3, c4, cE, rfl, rfl⟩), rfl⟩ | ⟨(⟨c0, cE, rfl, rfl⟩ | ⟨c0, c1, cE, rfl, rfl⟩ | ⟨c0, c1, c2, cE, rfl, rfl⟩ | ⟨c0, c1, c2, c3, cE, rfl, rfl⟩ | ⟨c0, c1, c2, c3, c4, cE, rfl, rfl⟩), rfl⟩ | ⟨(⟨c0, cE, rfl, rfl⟩ | ⟨c0, c1, cE, rfl, rfl⟩ | ⟨c0, c1, c2, cE, rfl, rfl⟩ | ⟨c0, c1, c2, c3, cE, rfl, rfl⟩ | ⟨c0, c1, c2, c3, c4, cE, rfl, rfl⟩), rfl⟩
  · have u0 := (vp_ix c0).2; have u1 := (vp_ix c1).2
    refine ⟨fun c hc => by (first | rfl | (simp (disch := omega) only [sI_row])), fun b I2 L2 hm => ?_⟩
    have hm := mn_floor h (fun c hc => by (first | rfl | (simp (disch := omega) only [sI_row]))) (fun c hc => by (first | rfl | (simp (disch := omega) only [sL_row, gSS_o, gsc_o, gPW_0, gcp_o, gRL_o, gRS_o, gRM_o, gRT_o, va_up_ne]))) hm
    rcases hm with ⟨m0, m1, m2, m3, rfl, rfl, rfl⟩ | ⟨m0, m1, m2, m3, m4, rfl, rfl, rfl⟩ | ⟨m0, m1, m2, m3, m4, rfl, rfl, rfl⟩ | ⟨m0, m1, m2, rfl, rfl, rfl⟩ | ⟨m0, m1, rfl, rfl, rfl⟩ | ⟨m0, rfl, rfl, rfl⟩
    all_goals first | contradiction | (exact ⟨by (simp (disch := omega) only [sI_at, sL_at, true_and, and_true, and_self, if_true, if_neg, if_pos]), fun _ => (by (simp (disch := omega) only [sI_at, sL_at, true_and, and_true, and_self, if_true, if_neg, if_pos]); exact (h.g6 _ (vp_ix m1).2).2), np, ne, lc, Inv.floor h⟩)
  · refine ⟨fun c hc => by (first | rfl | (simp (disch := omega) only [sI_row])), fun b I2 L2 hm => ?_⟩
    have hm := mn_floor h (fun c hc => by (first | rfl | (simp (disch := omega) only [sI_row]))) (fun c hc => by (first | rfl | (simp (disch := omega) only [sL_row, gSS_o, gsc_o, gPW_0, gcp_o, gRL_o, gRS_o, gRM_o, gRT_o, va_up_ne]))) hm
    rcases hm with ⟨m0, m1, m2, m3, rfl, rfl, rfl⟩ | ⟨m0, m1, m2, m3, m4, rfl, rfl, rfl⟩ | ⟨m0, m1, m2, m3, m4, rfl, rfl, rfl⟩ | ⟨m0, m1, m2, rfl, rfl, rfl⟩ | ⟨m0, m1, rfl, rfl, rfl⟩ | ⟨m0, rfl, rfl, rfl⟩
    all_goals first | contradiction | (exact iO_t h (by decide) (by (simp (disch := omega) only [sI_at, sL_at, true_and, and_true, and_self, if_true, if_neg, if_pos])) (fun c j hc => by (simp (disch := omega) only [sI_at, sL_at, true_and, and_true, and_self, if_true, if_neg, if_pos])) (fun c h1 h2 h3 => by (first | rfl | (simp (disch := omega) only [sL_row, gSS_o, gsc_o, gPW_0, gcp_o, gRL_o, gRS_o, gRM_o, gRT_o, va_up_ne]))))
  · refine ⟨fun c hc => by (first | rfl | (simp (disch := omega) only [sI_row])), fun b I2 L2 hm => ?_⟩
    have hm := mn_floor h (fun c hc => by (first | rfl | (simp (disch := omega) only [sI_row]))) (fun c hc => by (first | rfl | (simp (disch := omega) only [sL_row, gSS_o, gsc_o, gPW_0, gcp_o, gRL_o, gRS_o, gRM_o, gRT_o, va_up_ne]))) hm
    rcases hm with ⟨m0, m1, m2, m3, rfl, rfl, rfl⟩ | ⟨m0, m1, m2, m3, m4, rfl, rfl, rfl⟩ | ⟨m0, m1, m2, m3, m4, rfl, rfl, rfl⟩ | ⟨m0, m1, m2, rfl, rfl, rfl⟩ | ⟨m0, m1, rfl, rfl, rfl⟩ | ⟨m0, rfl, rfl, rfl⟩
    all_goals first | contradiction | (exact iO_t h (by decide) (by (simp (disch := omega) only [sI_at, sL_at, true_and, and_true, and_self, if_true, if_neg, if_pos])) (fun c j hc => by (simp (disch := omega) only [sI_at, sL_at, true_and, and_true, and_self, if_true, if_neg, if_pos])) (fun c h1 h2 h3 => by (first | rfl | (simp (disch := omega) only [sL_row, gSS_o, gsc_o, gPW_0, gcp_o, gRL_o, gRS_o, gRM_o, gRT_o, va_up_ne]))))
  · exact absurd cE (by decide)
  · exact absurd cE (by decide)
  · exact absurd cE (by decide)
  · exact absurd cE (by decide)
  · exact absurd cE (by decide)
  · refine ⟨fun c hc => by (first | rfl | (simp (disch := omega) only [sI_row])), fun b I2 L2 hm => ?_⟩
    have hm := mn_floor h (fun c hc => by (first | rfl | (simp (disch := omega) only [sI_row]))) (fun c hc => by (first | rfl | (simp (disch := omega) only [sL_row, gSS_o, gsc_o, gPW_0, gcp_o, gRL_o, gRS_o, gRM_o, gRT_o, va_up_ne]))) hm
    rcases hm with ⟨m0, m1, m2, m3, rfl, rfl, rfl⟩ | ⟨m0, m1, m2, m3, m4, rfl, rfl, rfl⟩ | ⟨m0, m1, m2, m3, m4, rfl, rfl, rfl⟩ | ⟨m0, m1, m2, rfl, rfl, rfl⟩ | ⟨m0, m1, rfl, rfl, rfl⟩ | ⟨m0, rfl, rfl, rfl⟩
    all_goals first | contradiction | (exact iO_t h (by decide) (by (simp (disch := omega) only [sI_at, sL_at, true_and, and_true, and_self, if_true, if_neg, if_pos])) (fun c j hc => by (simp (disch := omega) only [sI_at, sL_at, true_and, and_true, and_self, if_true, if_neg, if_pos])) (fun c h1 h2 h3 => by (first | rfl | (simp (disch := omega) only [sL_row, gSS_o, gsc_o, gPW_0, gcp_o, gRL_o, gRS_o, gRM_o, gRT_o, va_up_ne]))))
  · exact absurd cE (by decide)
  · exact absurd cE (by decide)
  · exact absurd cE (by decide)
  · exact absurd cE (by decide)
  · exact absurd cE (by decide)
  · refine ⟨fun c hc => by (first | rfl | (simp (disch := omega) only [sI_row])), fun b I2 L2 hm => ?_⟩
    have hm := mn_floor h (fun c hc => by (first | rfl | (simp (disch := omega) only [sI_row]))) (fun c hc => by (first | rfl | (simp (disch := omega) only [sL_row, gSS_o, gsc_o, gPW_0, gcp_o, gRL_o, gRS_o, gRM_o, gRT_o, va_up_ne]))) hm
    rcases hm with ⟨m0, m1, m2, m3, rfl, rfl, rfl⟩ | ⟨m0, m1, m2, m3, m4, rfl, rfl, rfl⟩ | ⟨m0, m1, m2, m3, m4, rfl, rfl, rfl⟩ | ⟨m0, m1, m2, rfl, rfl, rfl⟩ | ⟨m0, m1, rfl, rfl, rfl⟩ | ⟨m0, rfl, rfl, rfl⟩
    all_goals first | contradiction | (exact iO_t h (by decide) (by (simp (disch := omega) only [sI_at, sL_at, true_and, and_true, and_self, if_true, if_neg, if_pos])) (fun c j hc => by (simp (disch := omega) only [sI_at, sL_at, true_and, and_true, and_self, if_true, if_neg, if_pos])) (fun c h1 h2 h3 => by (first | rfl | (simp (disch := omega) only [sL_row, gSS_o, gsc_o, gPW_0, gcp_o, gRL_o, gRS_o, gRM_o, gRT_o, va_up_ne]))))
  · refine ⟨fun c hc => by (first | rfl | (simp (disch := omega) only [sI_row])), fun b I2 L2 hm => ?_⟩
    have hm := mn_floor h (fun c hc => by (first | rfl | (simp (disch := omega) only [sI_row]))) (fun c hc => by (first | rfl | (simp (disch := omega) only [sL_row, gSS_o, gsc_o, gPW_0, gcp_o, gRL_o, gRS_o, gRM_o, gRT_o, va_up_ne]))) hm
    rcases hm with ⟨m0, m1, m2, m3, rfl, rfl, rfl⟩ | ⟨m0, m1, m2, m3, m4, rfl, rfl, rfl⟩ | ⟨m0, m1, m2, m3, m4, rfl, rfl, rfl⟩ | ⟨m0, m1, m2, rfl, rfl, rfl⟩ | ⟨m0, m1, rfl, rfl, rfl⟩ | ⟨m0, rfl, rfl, rfl⟩
    all_goals first | contradiction | (exact iO_t h (by decide) (by (simp (disch := omega) only [sI_at, sL_at, true_and, and_true, and_self, if_true, if_neg, if_pos])) (fun c j hc => by (simp (disch := omega) only [sI_at, sL_at, true_and, and_true, and_self, if_true, if_neg, if_pos])) (fun c h1 h2 h3 => by (first | rfl | (simp (disch := omega) only [sL_row, gSS_o, gsc_o, gPW_0, gcp_o, gRL_o, gRS_o, gRM_o, gRT_o, va_up_ne]))))
set_option maxHeartbeats 4000000 in
theorem mn_tamper {np ne : Nat} {lc : Nat → Nat} {I I1 I2 : MI} {L L1 L2 : ML} {x1 : Int32} {x2 : Int64} (h : Inv np ne lc I L) (hI : iRI I I1) (hL : iRL L L1) {b : Int64} (hm : pq_X4_tamper x1 x2 I1 L1 b I2 L2) : (vp_in x1 8 ∧ x2 < (-1000000) ∧ (0 : Int64) = b ∧ (sI I1 136 0 2) = I2 ∧ L1 = L2) ∨ (vp_in x1 8 ∧ ¬ x2 < (-1000000) ∧ x2 ≤ 1000000 ∧ ¬ ((L 1 x1.toNatClampNeg) + x2) ≤ 1000000000000 ∧ (0 : Int64) = b ∧ (sI (sI I1 136 0 0) 136 0 3) = I2 ∧ L1 = L2) ∨ (vp_in x1 8 ∧ ¬ x2 < (-1000000) ∧ x2 ≤ 1000000 ∧ ((L 1 x1.toNatClampNeg) + x2) ≤ 1000000000000 ∧ ¬ ((L 1 x1.toNatClampNeg) + x2) < (-1000000000000) ∧ (L1 137 x1.toNatClampNeg) + x2 = b ∧ (sI I1 136 0 0) = I2 ∧ (sL L1 137 x1.toNatClampNeg ((L1 137 x1.toNatClampNeg) + x2)) = L2) ∨ (vp_in x1 8 ∧ ¬ x2 < (-1000000) ∧ x2 ≤ 1000000 ∧ ((L 1 x1.toNatClampNeg) + x2) ≤ 1000000000000 ∧ ((L 1 x1.toNatClampNeg) + x2) < (-1000000000000) ∧ (0 : Int64) = b ∧ (sI (sI I1 136 0 0) 136 0 3) = I2 ∧ L1 = L2) ∨ (vp_in x1 8 ∧ ¬ x2 < (-1000000) ∧ ¬ x2 ≤ 1000000 ∧ (0 : Int64) = b ∧ (sI I1 136 0 2) = I2 ∧ L1 = L2) ∨ (¬ vp_in x1 8 ∧ (0 : Int64) = b ∧ (sI I1 136 0 1) = I2 ∧ L1 = L2) := by
  have hI0 : ∀ k, 136 < k → I1 k = I k := fun k hk => hI k (by omega)
  have hIs : ∀ k, 136 < k → (sI I1 136 0 0) k = I k := fun k hk => (s_row rfl k hk).trans (hI k (by omega))
  rcases hm with ⟨m0, m1, e0, e1, e2⟩ | ⟨m0, m1, m2, m3, e0, e1, e2⟩ | ⟨m0, m1, m2, m3, m4, e0, e1, e2⟩ | ⟨m0, m1, m2, m3, m4, e0, e1, e2⟩ | ⟨m0, m1, m2, e0, e1, e2⟩ | ⟨m0, e0, e1, e2⟩
  · exact Or.inl (⟨m0, m1, e0, e1, e2⟩)
  · exact Or.inr (Or.inl (⟨m0, m1, m2, (b_t1 h hL m0).mp m3, e0, e1, e2⟩))
  · exact Or.inr (Or.inr (Or.inl (⟨m0, m1, m2, Decidable.not_not.mp (fun z => m3 ((b_t1 h hL m0).mpr z)), (b_t2 h hL m0).mp m4, e0, e1, e2⟩)))
  · exact Or.inr (Or.inr (Or.inr (Or.inl (⟨m0, m1, m2, Decidable.not_not.mp (fun z => m3 ((b_t1 h hL m0).mpr z)), Decidable.not_not.mp (fun z => m4 ((b_t2 h hL m0).mpr z)), e0, e1, e2⟩))))
  · exact Or.inr (Or.inr (Or.inr (Or.inr (Or.inl (⟨m0, m1, m2, e0, e1, e2⟩)))))
  · exact Or.inr (Or.inr (Or.inr (Or.inr (Or.inr ((⟨m0, e0, e1, e2⟩))))))
set_option maxHeartbeats 8000000 in
theorem op_tamper {np ne : Nat} {lc : Nat → Nat} {I I1 : MI} {L L1 : ML} {x1 : Int32} {x2 : Int64} (h : Inv np ne lc I L) {k : Int32} (hc : pq_L_tamper x1 x2 I L k I1 L1) : iRI I I1 ∧ ∀ (b : Int64) (I2 : MI) (L2 : ML), pq_X4_tamper x1 x2 I1 L1 b I2 L2 → iO k (L2 135 0 = b) I2 L2 := by
  have h40 := h.ne40
  have h10 := h.np10
  rcases hc with (⟨v, L9, (⟨c0, c1, c2, c3, c4, rfl, rfl, rfl⟩), rfl, rfl⟩) | ⟨(⟨c0, cE, rfl, rfl⟩ | ⟨c0, c1, cE, rfl, rfl⟩ | ⟨c0, c1, c2, c3, cE, rfl, rfl⟩ | ⟨c0, c1, c2, c3, c4, cE, rfl, rfl⟩ | ⟨c0, c1, c2, cE, rfl, rfl⟩), rfl⟩ | ⟨(⟨c0, cE, rfl, rfl⟩ | ⟨c0, c1, cE, rfl, rfl⟩ | ⟨c0, c1, c2, c3, cE, rfl, rfl⟩ | ⟨c0, c1, c2, c3, c4, cE, rfl, rfl⟩ | ⟨c0, c1, c2, cE, rfl, rfl⟩), rfl⟩ | ⟨(⟨c0, cE, rfl, rfl⟩ | ⟨c0, c1, cE, rfl, rfl⟩ | ⟨c0, c1, c2, c3, cE, rfl, rfl⟩ | ⟨c0, c1, c2, c3, c4, cE, rfl, rfl⟩ | ⟨c0, c1, c2, cE, rfl, rfl⟩), rfl⟩
  · have u0 := (vp_ix c0).2
    refine ⟨fun c hc => by (first | rfl | (simp (disch := omega) only [sI_row])), fun b I2 L2 hm => ?_⟩
    have hm := mn_tamper h (fun c hc => by (first | rfl | (simp (disch := omega) only [sI_row]))) (fun c hc => by (first | rfl | (simp (disch := omega) only [sL_row, gSS_o, gsc_o, gPW_0, gcp_o, gRL_o, gRS_o, gRM_o, gRT_o, va_up_ne]))) hm
    rcases hm with ⟨m0, m1, rfl, rfl, rfl⟩ | ⟨m0, m1, m2, m3, rfl, rfl, rfl⟩ | ⟨m0, m1, m2, m3, m4, rfl, rfl, rfl⟩ | ⟨m0, m1, m2, m3, m4, rfl, rfl, rfl⟩ | ⟨m0, m1, m2, rfl, rfl, rfl⟩ | ⟨m0, rfl, rfl, rfl⟩
    all_goals first | contradiction | (exact ⟨by (simp (disch := omega) only [sI_at, sL_at, true_and, and_true, and_self, if_true, if_neg, if_pos]), fun _ => (by (simp (disch := omega) only [sI_at, sL_at, true_and, and_true, and_self, if_true, if_neg, if_pos]); rw [(h.g6 _ (vp_ix m0).2).1]), np, ne, lc, Inv.tamper h (vp_ix m0).2⟩)
  · refine ⟨fun c hc => by (first | rfl | (simp (disch := omega) only [sI_row])), fun b I2 L2 hm => ?_⟩
    have hm := mn_tamper h (fun c hc => by (first | rfl | (simp (disch := omega) only [sI_row]))) (fun c hc => by (first | rfl | (simp (disch := omega) only [sL_row, gSS_o, gsc_o, gPW_0, gcp_o, gRL_o, gRS_o, gRM_o, gRT_o, va_up_ne]))) hm
    rcases hm with ⟨m0, m1, rfl, rfl, rfl⟩ | ⟨m0, m1, m2, m3, rfl, rfl, rfl⟩ | ⟨m0, m1, m2, m3, m4, rfl, rfl, rfl⟩ | ⟨m0, m1, m2, m3, m4, rfl, rfl, rfl⟩ | ⟨m0, m1, m2, rfl, rfl, rfl⟩ | ⟨m0, rfl, rfl, rfl⟩
    all_goals first | contradiction | (exact iO_t h (by decide) (by (simp (disch := omega) only [sI_at, sL_at, true_and, and_true, and_self, if_true, if_neg, if_pos])) (fun c j hc => by (simp (disch := omega) only [sI_at, sL_at, true_and, and_true, and_self, if_true, if_neg, if_pos])) (fun c h1 h2 h3 => by (first | rfl | (simp (disch := omega) only [sL_row, gSS_o, gsc_o, gPW_0, gcp_o, gRL_o, gRS_o, gRM_o, gRT_o, va_up_ne]))))
  · exact absurd cE (by decide)
  · exact absurd cE (by decide)
  · exact absurd cE (by decide)
  · exact absurd cE (by decide)
  · exact absurd cE (by decide)
  · refine ⟨fun c hc => by (first | rfl | (simp (disch := omega) only [sI_row])), fun b I2 L2 hm => ?_⟩
    have hm := mn_tamper h (fun c hc => by (first | rfl | (simp (disch := omega) only [sI_row]))) (fun c hc => by (first | rfl | (simp (disch := omega) only [sL_row, gSS_o, gsc_o, gPW_0, gcp_o, gRL_o, gRS_o, gRM_o, gRT_o, va_up_ne]))) hm
    rcases hm with ⟨m0, m1, rfl, rfl, rfl⟩ | ⟨m0, m1, m2, m3, rfl, rfl, rfl⟩ | ⟨m0, m1, m2, m3, m4, rfl, rfl, rfl⟩ | ⟨m0, m1, m2, m3, m4, rfl, rfl, rfl⟩ | ⟨m0, m1, m2, rfl, rfl, rfl⟩ | ⟨m0, rfl, rfl, rfl⟩
    all_goals first | contradiction | (exact iO_t h (by decide) (by (simp (disch := omega) only [sI_at, sL_at, true_and, and_true, and_self, if_true, if_neg, if_pos])) (fun c j hc => by (simp (disch := omega) only [sI_at, sL_at, true_and, and_true, and_self, if_true, if_neg, if_pos])) (fun c h1 h2 h3 => by (first | rfl | (simp (disch := omega) only [sL_row, gSS_o, gsc_o, gPW_0, gcp_o, gRL_o, gRS_o, gRM_o, gRT_o, va_up_ne]))))
  · exact absurd cE (by decide)
  · exact absurd cE (by decide)
  · refine ⟨fun c hc => by (first | rfl | (simp (disch := omega) only [sI_row])), fun b I2 L2 hm => ?_⟩
    have hm := mn_tamper h (fun c hc => by (first | rfl | (simp (disch := omega) only [sI_row]))) (fun c hc => by (first | rfl | (simp (disch := omega) only [sL_row, gSS_o, gsc_o, gPW_0, gcp_o, gRL_o, gRS_o, gRM_o, gRT_o, va_up_ne]))) hm
    rcases hm with ⟨m0, m1, rfl, rfl, rfl⟩ | ⟨m0, m1, m2, m3, rfl, rfl, rfl⟩ | ⟨m0, m1, m2, m3, m4, rfl, rfl, rfl⟩ | ⟨m0, m1, m2, m3, m4, rfl, rfl, rfl⟩ | ⟨m0, m1, m2, rfl, rfl, rfl⟩ | ⟨m0, rfl, rfl, rfl⟩
    all_goals first | contradiction | (exact iO_t h (by decide) (by (simp (disch := omega) only [sI_at, sL_at, true_and, and_true, and_self, if_true, if_neg, if_pos])) (fun c j hc => by (simp (disch := omega) only [sI_at, sL_at, true_and, and_true, and_self, if_true, if_neg, if_pos])) (fun c h1 h2 h3 => by (first | rfl | (simp (disch := omega) only [sL_row, gSS_o, gsc_o, gPW_0, gcp_o, gRL_o, gRS_o, gRM_o, gRT_o, va_up_ne]))))
  · exact absurd cE (by decide)
  · exact absurd cE (by decide)
  · refine ⟨fun c hc => by (first | rfl | (simp (disch := omega) only [sI_row])), fun b I2 L2 hm => ?_⟩
    have hm := mn_tamper h (fun c hc => by (first | rfl | (simp (disch := omega) only [sI_row]))) (fun c hc => by (first | rfl | (simp (disch := omega) only [sL_row, gSS_o, gsc_o, gPW_0, gcp_o, gRL_o, gRS_o, gRM_o, gRT_o, va_up_ne]))) hm
    rcases hm with ⟨m0, m1, rfl, rfl, rfl⟩ | ⟨m0, m1, m2, m3, rfl, rfl, rfl⟩ | ⟨m0, m1, m2, m3, m4, rfl, rfl, rfl⟩ | ⟨m0, m1, m2, m3, m4, rfl, rfl, rfl⟩ | ⟨m0, m1, m2, rfl, rfl, rfl⟩ | ⟨m0, rfl, rfl, rfl⟩
    all_goals first | contradiction | (exact iO_t h (by decide) (by (simp (disch := omega) only [sI_at, sL_at, true_and, and_true, and_self, if_true, if_neg, if_pos])) (fun c j hc => by (simp (disch := omega) only [sI_at, sL_at, true_and, and_true, and_self, if_true, if_neg, if_pos])) (fun c h1 h2 h3 => by (first | rfl | (simp (disch := omega) only [sL_row, gSS_o, gsc_o, gPW_0, gcp_o, gRL_o, gRS_o, gRM_o, gRT_o, va_up_ne]))))
  · refine ⟨fun c hc => by (first | rfl | (simp (disch := omega) only [sI_row])), fun b I2 L2 hm => ?_⟩
    have hm := mn_tamper h (fun c hc => by (first | rfl | (simp (disch := omega) only [sI_row]))) (fun c hc => by (first | rfl | (simp (disch := omega) only [sL_row, gSS_o, gsc_o, gPW_0, gcp_o, gRL_o, gRS_o, gRM_o, gRT_o, va_up_ne]))) hm
    rcases hm with ⟨m0, m1, rfl, rfl, rfl⟩ | ⟨m0, m1, m2, m3, rfl, rfl, rfl⟩ | ⟨m0, m1, m2, m3, m4, rfl, rfl, rfl⟩ | ⟨m0, m1, m2, m3, m4, rfl, rfl, rfl⟩ | ⟨m0, m1, m2, rfl, rfl, rfl⟩ | ⟨m0, rfl, rfl, rfl⟩
    all_goals first | contradiction | (exact iO_t h (by decide) (by (simp (disch := omega) only [sI_at, sL_at, true_and, and_true, and_self, if_true, if_neg, if_pos])) (fun c j hc => by (simp (disch := omega) only [sI_at, sL_at, true_and, and_true, and_self, if_true, if_neg, if_pos])) (fun c h1 h2 h3 => by (first | rfl | (simp (disch := omega) only [sL_row, gSS_o, gsc_o, gPW_0, gcp_o, gRL_o, gRS_o, gRM_o, gRT_o, va_up_ne]))))
  · exact absurd cE (by decide)
set_option maxHeartbeats 4000000 in
theorem mn_restore {np ne : Nat} {lc : Nat → Nat} {I I1 I2 : MI} {L L1 L2 : ML} {x1 : Int32} (h : Inv np ne lc I L) (hI : iRI I I1) (hL : iRL L L1) {b : Int32} (hm : pq_X4_restore lc ne x1 I1 L1 b I2 L2) : (vp_in x1 8 ∧ x1 < 2 ∧ nI (gcn (L1 137) (glf (sI I1 136 0 0) lc (L1 145) ne) 8) = b ∧ (sI I1 136 0 0) = I2 ∧ (gRT (sI I1 136 0 0) lc L1 ne 8) = L2) ∨ (vp_in x1 8 ∧ ¬ (x1 < 2) ∧ 0 = b ∧ sI I1 136 0 2 = I2 ∧ L1 = L2) ∨ (¬ vp_in x1 8 ∧ 0 = b ∧ sI I1 136 0 1 = I2 ∧ L1 = L2) := by
  have hI0 : ∀ k, 136 < k → I1 k = I k := fun k hk => hI k (by omega)
  have hIs : ∀ k, 136 < k → (sI I1 136 0 0) k = I k := fun k hk => (s_row rfl k hk).trans (hI k (by omega))
  rcases hm with ⟨m0, m1, e0, e1, e2⟩ | ⟨m0, m1, e0, e1, e2⟩ | ⟨m0, e0, e1, e2⟩
  · exact Or.inl (⟨m0, (b_off m0).mp m1, e0, e1, e2⟩)
  · exact Or.inr (Or.inl (⟨m0, fun z => m1 ((b_off m0).mpr z), e0, e1, e2⟩))
  · exact Or.inr (Or.inr ((⟨m0, e0, e1, e2⟩)))
set_option maxHeartbeats 8000000 in
theorem op_restore {np ne : Nat} {lc : Nat → Nat} {I I1 : MI} {L L1 : ML} {x1 : Int32} (h : Inv np ne lc I L) {k : Int32} (hc : pq_L_restore ne x1 I L k I1 L1) : iRI I I1 ∧ ∀ (b : Int32) (I2 : MI) (L2 : ML), pq_X4_restore lc ne x1 I1 L1 b I2 L2 → iO k (L2 135 0 = b.toInt64) I2 L2 := by
  have h40 := h.ne40
  have h10 := h.np10
  rcases hc with (⟨v, L9, (⟨c0, c1, rfl, rfl, rfl⟩), rfl, rfl⟩) | ⟨(⟨c0, cE, rfl, rfl⟩ | ⟨c0, c1, cE, rfl, rfl⟩), rfl⟩ | ⟨(⟨c0, cE, rfl, rfl⟩ | ⟨c0, c1, cE, rfl, rfl⟩), rfl⟩
  · have u0 := (vp_ix c0).2
    refine ⟨fun c hc => by (first | rfl | (simp (disch := omega) only [sI_row])), fun b I2 L2 hm => ?_⟩
    have hm := mn_restore h (fun c hc => by (first | rfl | (simp (disch := omega) only [sI_row]))) (fun c hc => by (first | rfl | (simp (disch := omega) only [sL_row, gSS_o, gsc_o, gPW_0, gcp_o, gRL_o, gRS_o, gRM_o, gRT_o, va_up_ne]))) hm
    rcases hm with ⟨m0, m1, rfl, rfl, rfl⟩ | ⟨m0, m1, rfl, rfl, rfl⟩ | ⟨m0, rfl, rfl, rfl⟩
    all_goals first | contradiction | (exact ⟨by (simp (disch := omega) only [sI_at, sL_at, true_and, and_true, and_self, if_true, if_neg, if_pos]), fun _ => (by rw [gRT_o _ _ _ _ (by decide) (by decide), sL_eq, b_cnt h (fun k hk => s_row rfl k hk) (fun c hc => by (first | rfl | (simp (disch := omega) only [sL_row, gSS_o, gsc_o, gPW_0, gcp_o, gRL_o, gRS_o, gRM_o, gRT_o, va_up_ne])))]), np, ne, lc, Inv.restore h⟩)
  · refine ⟨fun c hc => by (first | rfl | (simp (disch := omega) only [sI_row])), fun b I2 L2 hm => ?_⟩
    have hm := mn_restore h (fun c hc => by (first | rfl | (simp (disch := omega) only [sI_row]))) (fun c hc => by (first | rfl | (simp (disch := omega) only [sL_row, gSS_o, gsc_o, gPW_0, gcp_o, gRL_o, gRS_o, gRM_o, gRT_o, va_up_ne]))) hm
    rcases hm with ⟨m0, m1, rfl, rfl, rfl⟩ | ⟨m0, m1, rfl, rfl, rfl⟩ | ⟨m0, rfl, rfl, rfl⟩
    all_goals first | contradiction | (exact iO_t h (by decide) (by (simp (disch := omega) only [sI_at, sL_at, true_and, and_true, and_self, if_true, if_neg, if_pos])) (fun c j hc => by (simp (disch := omega) only [sI_at, sL_at, true_and, and_true, and_self, if_true, if_neg, if_pos])) (fun c h1 h2 h3 => by (first | rfl | (simp (disch := omega) only [sL_row, gSS_o, gsc_o, gPW_0, gcp_o, gRL_o, gRS_o, gRM_o, gRT_o, va_up_ne]))))
  · exact absurd cE (by decide)
  · exact absurd cE (by decide)
  · refine ⟨fun c hc => by (first | rfl | (simp (disch := omega) only [sI_row])), fun b I2 L2 hm => ?_⟩
    have hm := mn_restore h (fun c hc => by (first | rfl | (simp (disch := omega) only [sI_row]))) (fun c hc => by (first | rfl | (simp (disch := omega) only [sL_row, gSS_o, gsc_o, gPW_0, gcp_o, gRL_o, gRS_o, gRM_o, gRT_o, va_up_ne]))) hm
    rcases hm with ⟨m0, m1, rfl, rfl, rfl⟩ | ⟨m0, m1, rfl, rfl, rfl⟩ | ⟨m0, rfl, rfl, rfl⟩
    all_goals first | contradiction | (exact iO_t h (by decide) (by (simp (disch := omega) only [sI_at, sL_at, true_and, and_true, and_self, if_true, if_neg, if_pos])) (fun c j hc => by (simp (disch := omega) only [sI_at, sL_at, true_and, and_true, and_self, if_true, if_neg, if_pos])) (fun c h1 h2 h3 => by (first | rfl | (simp (disch := omega) only [sL_row, gSS_o, gsc_o, gPW_0, gcp_o, gRL_o, gRS_o, gRM_o, gRT_o, va_up_ne]))))
set_option maxHeartbeats 4000000 in
theorem mn_withdraw {np ne : Nat} {lc : Nat → Nat} {I I1 I2 : MI} {L L1 L2 : ML} {x1 : Int32} {x2 : Int32} (h : Inv np ne lc I L) (hI : iRI I I1) (hL : iRL L L1) (hm : pq_X4_withdraw np x1 x2 I1 L1 I2 L2) : (vp_in x1 8 ∧ (vp_in x2 6 ∧ ¬ I (8 + x2.toNatClampNeg) 0 = -1) ∧ (I (8 + x2.toNatClampNeg) 0) = x1 ∧ (sI (sI I1 136 0 0) 150 x2.toNatClampNeg (-1)) = I2 ∧ L1 = L2) ∨ (vp_in x1 8 ∧ (vp_in x2 6 ∧ ¬ I (8 + x2.toNatClampNeg) 0 = -1) ∧ ¬ ((I (8 + x2.toNatClampNeg) 0) = x1) ∧ (gMR np I x1 (I (8 + x2.toNatClampNeg) 1) ∧ ¬ I (8 + x2.toNatClampNeg) 0 = x1) ∧ (sI (sI I1 136 0 0) 150 x2.toNatClampNeg (-1)) = I2 ∧ L1 = L2) ∨ (vp_in x1 8 ∧ (vp_in x2 6 ∧ ¬ I (8 + x2.toNatClampNeg) 0 = -1) ∧ ¬ ((I (8 + x2.toNatClampNeg) 0) = x1) ∧ (¬ (gMR np I x1 (I (8 + x2.toNatClampNeg) 1) ∧ ¬ I (8 + x2.toNatClampNeg) 0 = x1)) ∧ (sI I1 136 0 2) = I2 ∧ L1 = L2) ∨ (vp_in x1 8 ∧ (¬ (vp_in x2 6 ∧ ¬ I (8 + x2.toNatClampNeg) 0 = -1)) ∧ (sI I1 136 0 1) = I2 ∧ L1 = L2) ∨ (¬ vp_in x1 8 ∧ (sI I1 136 0 1) = I2 ∧ L1 = L2) := by
  have hI0 : ∀ k, 136 < k → I1 k = I k := fun k hk => hI k (by omega)
  have hIs : ∀ k, 136 < k → (sI I1 136 0 0) k = I k := fun k hk => (s_row rfl k hk).trans (hI k (by omega))
  rcases hm with ⟨m0, m1, m2, e0, e1⟩ | ⟨m0, m1, m2, m3, e0, e1⟩ | ⟨m0, m1, m2, m3, e0, e1⟩ | ⟨m0, m1, e0, e1⟩ | ⟨m0, e0, e1⟩
  · exact Or.inl (⟨m0, (b_rq h hI0).mp m1, (b_me h hI0 m0 ((b_rq h hI0).mp m1)).mp m2, e0, e1⟩)
  · exact Or.inr (Or.inl (⟨m0, (b_rq h hI0).mp m1, fun z => m2 ((b_me h hI0 m0 ((b_rq h hI0).mp m1)).mpr z), (b_ma h hI0 m0 ((b_rq h hI0).mp m1)).mp m3, e0, e1⟩))
  · exact Or.inr (Or.inr (Or.inl (⟨m0, (b_rq h hI0).mp m1, fun z => m2 ((b_me h hI0 m0 ((b_rq h hI0).mp m1)).mpr z), fun z => m3 ((b_ma h hI0 m0 ((b_rq h hI0).mp m1)).mpr z), e0, e1⟩)))
  · exact Or.inr (Or.inr (Or.inr (Or.inl (⟨m0, fun z => m1 ((b_rq h hI0).mpr z), e0, e1⟩))))
  · exact Or.inr (Or.inr (Or.inr (Or.inr ((⟨m0, e0, e1⟩)))))
set_option maxHeartbeats 8000000 in
theorem op_withdraw {np ne : Nat} {lc : Nat → Nat} {I I1 : MI} {L L1 : ML} {x1 : Int32} {x2 : Int32} (h : Inv np ne lc I L) {k : Int32} (hc : pq_L_withdraw np x1 x2 I L k I1 L1) : iRI I I1 ∧ ∀ (I2 : MI) (L2 : ML), pq_X4_withdraw np x1 x2 I1 L1 I2 L2 → iO k True I2 L2 := by
  have h40 := h.ne40
  have h10 := h.np10
  rcases hc with (⟨(⟨c0, c1, c2, rfl, rfl⟩ | ⟨c0, c1, c2, c3, rfl, rfl⟩), rfl⟩) | ⟨(⟨c0, cE, rfl, rfl⟩ | ⟨c0, c1, cE, rfl, rfl⟩ | ⟨c0, c1, c2, c3, cE, rfl, rfl⟩), rfl⟩ | ⟨(⟨c0, cE, rfl, rfl⟩ | ⟨c0, c1, cE, rfl, rfl⟩ | ⟨c0, c1, c2, c3, cE, rfl, rfl⟩), rfl⟩
  · have u0 := (vp_ix c0).2; have u1 := (vp_ix c1.1).2
    refine ⟨fun c hc => by (first | rfl | (simp (disch := omega) only [sI_row])), fun I2 L2 hm => ?_⟩
    have hm := mn_withdraw h (fun c hc => by (first | rfl | (simp (disch := omega) only [sI_row]))) (fun c hc => by (first | rfl | (simp (disch := omega) only [sL_row, gSS_o, gsc_o, gPW_0, gcp_o, gRL_o, gRS_o, gRM_o, gRT_o, va_up_ne]))) hm
    rcases hm with ⟨m0, m1, m2, rfl, rfl⟩ | ⟨m0, m1, m2, m3, rfl, rfl⟩ | ⟨m0, m1, m2, m3, rfl, rfl⟩ | ⟨m0, m1, rfl, rfl⟩ | ⟨m0, rfl, rfl⟩
    all_goals first | contradiction | (exact ⟨by (simp (disch := omega) only [sI_at, sL_at, true_and, and_true, and_self, if_true, if_neg, if_pos]), fun _ => trivial, np, ne, lc, Inv.withdraw h (vp_ix m1.1).2⟩)
  · have u0 := (vp_ix c0).2; have u1 := (vp_ix c1.1).2
    refine ⟨fun c hc => by (first | rfl | (simp (disch := omega) only [sI_row])), fun I2 L2 hm => ?_⟩
    have hm := mn_withdraw h (fun c hc => by (first | rfl | (simp (disch := omega) only [sI_row]))) (fun c hc => by (first | rfl | (simp (disch := omega) only [sL_row, gSS_o, gsc_o, gPW_0, gcp_o, gRL_o, gRS_o, gRM_o, gRT_o, va_up_ne]))) hm
    rcases hm with ⟨m0, m1, m2, rfl, rfl⟩ | ⟨m0, m1, m2, m3, rfl, rfl⟩ | ⟨m0, m1, m2, m3, rfl, rfl⟩ | ⟨m0, m1, rfl, rfl⟩ | ⟨m0, rfl, rfl⟩
    all_goals first | contradiction | (exact ⟨by (simp (disch := omega) only [sI_at, sL_at, true_and, and_true, and_self, if_true, if_neg, if_pos]), fun _ => trivial, np, ne, lc, Inv.withdraw h (vp_ix m1.1).2⟩)
  · refine ⟨fun c hc => by (first | rfl | (simp (disch := omega) only [sI_row])), fun I2 L2 hm => ?_⟩
    have hm := mn_withdraw h (fun c hc => by (first | rfl | (simp (disch := omega) only [sI_row]))) (fun c hc => by (first | rfl | (simp (disch := omega) only [sL_row, gSS_o, gsc_o, gPW_0, gcp_o, gRL_o, gRS_o, gRM_o, gRT_o, va_up_ne]))) hm
    rcases hm with ⟨m0, m1, m2, rfl, rfl⟩ | ⟨m0, m1, m2, m3, rfl, rfl⟩ | ⟨m0, m1, m2, m3, rfl, rfl⟩ | ⟨m0, m1, rfl, rfl⟩ | ⟨m0, rfl, rfl⟩
    all_goals first | contradiction | (exact iO_t h (by decide) (by (simp (disch := omega) only [sI_at, sL_at, true_and, and_true, and_self, if_true, if_neg, if_pos])) (fun c j hc => by (simp (disch := omega) only [sI_at, sL_at, true_and, and_true, and_self, if_true, if_neg, if_pos])) (fun c h1 h2 h3 => by (first | rfl | (simp (disch := omega) only [sL_row, gSS_o, gsc_o, gPW_0, gcp_o, gRL_o, gRS_o, gRM_o, gRT_o, va_up_ne]))))
  · refine ⟨fun c hc => by (first | rfl | (simp (disch := omega) only [sI_row])), fun I2 L2 hm => ?_⟩
    have hm := mn_withdraw h (fun c hc => by (first | rfl | (simp (disch := omega) only [sI_row]))) (fun c hc => by (first | rfl | (simp (disch := omega) only [sL_row, gSS_o, gsc_o, gPW_0, gcp_o, gRL_o, gRS_o, gRM_o, gRT_o, va_up_ne]))) hm
    rcases hm with ⟨m0, m1, m2, rfl, rfl⟩ | ⟨m0, m1, m2, m3, rfl, rfl⟩ | ⟨m0, m1, m2, m3, rfl, rfl⟩ | ⟨m0, m1, rfl, rfl⟩ | ⟨m0, rfl, rfl⟩
    all_goals first | contradiction | (exact iO_t h (by decide) (by (simp (disch := omega) only [sI_at, sL_at, true_and, and_true, and_self, if_true, if_neg, if_pos])) (fun c j hc => by (simp (disch := omega) only [sI_at, sL_at, true_and, and_true, and_self, if_true, if_neg, if_pos])) (fun c h1 h2 h3 => by (first | rfl | (simp (disch := omega) only [sL_row, gSS_o, gsc_o, gPW_0, gcp_o, gRL_o, gRS_o, gRM_o, gRT_o, va_up_ne]))))
  · exact absurd cE (by decide)
  · exact absurd cE (by decide)
  · exact absurd cE (by decide)
  · refine ⟨fun c hc => by (first | rfl | (simp (disch := omega) only [sI_row])), fun I2 L2 hm => ?_⟩
    have hm := mn_withdraw h (fun c hc => by (first | rfl | (simp (disch := omega) only [sI_row]))) (fun c hc => by (first | rfl | (simp (disch := omega) only [sL_row, gSS_o, gsc_o, gPW_0, gcp_o, gRL_o, gRS_o, gRM_o, gRT_o, va_up_ne]))) hm
    rcases hm with ⟨m0, m1, m2, rfl, rfl⟩ | ⟨m0, m1, m2, m3, rfl, rfl⟩ | ⟨m0, m1, m2, m3, rfl, rfl⟩ | ⟨m0, m1, rfl, rfl⟩ | ⟨m0, rfl, rfl⟩
    all_goals first | contradiction | (exact iO_t h (by decide) (by (simp (disch := omega) only [sI_at, sL_at, true_and, and_true, and_self, if_true, if_neg, if_pos])) (fun c j hc => by (simp (disch := omega) only [sI_at, sL_at, true_and, and_true, and_self, if_true, if_neg, if_pos])) (fun c h1 h2 h3 => by (first | rfl | (simp (disch := omega) only [sL_row, gSS_o, gsc_o, gPW_0, gcp_o, gRL_o, gRS_o, gRM_o, gRT_o, va_up_ne]))))
set_option maxHeartbeats 4000000 in
theorem mn_balance {np ne : Nat} {lc : Nat → Nat} {I I1 I2 : MI} {L L1 L2 : ML} {x1 : Int32} (h : Inv np ne lc I L) (hI : iRI I I1) (hL : iRL L L1) {b : Int64} (hm : pq_X4_balance x1 I1 L1 b I2 L2) : (vp_in x1 8 ∧ L1 137 x1.toNatClampNeg = b ∧ (sI I1 136 0 0) = I2 ∧ L1 = L2) ∨ (¬ vp_in x1 8 ∧ (0 : Int64) = b ∧ (sI I1 136 0 1) = I2 ∧ L1 = L2) := by
  have hI0 : ∀ k, 136 < k → I1 k = I k := fun k hk => hI k (by omega)
  have hIs : ∀ k, 136 < k → (sI I1 136 0 0) k = I k := fun k hk => (s_row rfl k hk).trans (hI k (by omega))
  rcases hm with ⟨m0, e0, e1, e2⟩ | ⟨m0, e0, e1, e2⟩
  · exact Or.inl (⟨m0, e0, e1, e2⟩)
  · exact Or.inr ((⟨m0, e0, e1, e2⟩))
set_option maxHeartbeats 8000000 in
theorem op_balance {np ne : Nat} {lc : Nat → Nat} {I I1 : MI} {L L1 : ML} {x1 : Int32} (h : Inv np ne lc I L) {k : Int32} (hc : pq_L_balance x1 I L k I1 L1) : iRI I I1 ∧ ∀ (b : Int64) (I2 : MI) (L2 : ML), pq_X4_balance x1 I1 L1 b I2 L2 → iO k (L2 135 0 = b) I2 L2 := by
  have h40 := h.ne40
  have h10 := h.np10
  rcases hc with (⟨v, L9, (⟨c0, rfl, rfl, rfl⟩), rfl, rfl⟩) | ⟨(⟨c0, cE, rfl, rfl⟩), rfl⟩
  · have u0 := (vp_ix c0).2
    refine ⟨fun c hc => by (first | rfl | (simp (disch := omega) only [sI_row])), fun b I2 L2 hm => ?_⟩
    have hm := mn_balance h (fun c hc => by (first | rfl | (simp (disch := omega) only [sI_row]))) (fun c hc => by (first | rfl | (simp (disch := omega) only [sL_row, gSS_o, gsc_o, gPW_0, gcp_o, gRL_o, gRS_o, gRM_o, gRT_o, va_up_ne]))) hm
    rcases hm with ⟨m0, rfl, rfl, rfl⟩ | ⟨m0, rfl, rfl, rfl⟩
    all_goals first | contradiction | (exact iO_r h (by (simp (disch := omega) only [sI_at, sL_at, true_and, and_true, and_self, if_true, if_neg, if_pos])) (by rw [(h.g6 _ (vp_ix m0).2).1]; (simp (disch := omega) only [sI_at, sL_at, true_and, and_true, and_self, if_true, if_neg, if_pos])) (fun c j hc => by (simp (disch := omega) only [sI_at, sL_at, true_and, and_true, and_self, if_true, if_neg, if_pos])) (fun c h1 h2 h3 => by (first | rfl | (simp (disch := omega) only [sL_row, gSS_o, gsc_o, gPW_0, gcp_o, gRL_o, gRS_o, gRM_o, gRT_o, va_up_ne]))))
  · refine ⟨fun c hc => by (first | rfl | (simp (disch := omega) only [sI_row])), fun b I2 L2 hm => ?_⟩
    have hm := mn_balance h (fun c hc => by (first | rfl | (simp (disch := omega) only [sI_row]))) (fun c hc => by (first | rfl | (simp (disch := omega) only [sL_row, gSS_o, gsc_o, gPW_0, gcp_o, gRL_o, gRS_o, gRM_o, gRT_o, va_up_ne]))) hm
    rcases hm with ⟨m0, rfl, rfl, rfl⟩ | ⟨m0, rfl, rfl, rfl⟩
    all_goals first | contradiction | (exact iO_t h (by decide) (by (simp (disch := omega) only [sI_at, sL_at, true_and, and_true, and_self, if_true, if_neg, if_pos])) (fun c j hc => by (simp (disch := omega) only [sI_at, sL_at, true_and, and_true, and_self, if_true, if_neg, if_pos])) (fun c h1 h2 h3 => by (first | rfl | (simp (disch := omega) only [sL_row, gSS_o, gsc_o, gPW_0, gcp_o, gRL_o, gRS_o, gRM_o, gRT_o, va_up_ne]))))
set_option maxHeartbeats 4000000 in
theorem mn_balanceAt {np ne : Nat} {lc : Nat → Nat} {I I1 I2 : MI} {L L1 L2 : ML} {x1 : Int32} {x2 : Int32} (h : Inv np ne lc I L) (hI : iRI I I1) (hL : iRL L L1) {b : Int64} (hm : pq_X4_balanceAt ne lc x1 x2 I1 L1 b I2 L2) : (vp_in x1 8 ∧ x2 < 0 ∧ (0 : Int64) = b ∧ (sI I1 136 0 1) = I2 ∧ L1 = L2) ∨ (vp_in x1 8 ∧ ¬ x2 < 0 ∧ ¬ x2 ≤ (nI ne) ∧ (0 : Int64) = b ∧ (sI I1 136 0 1) = I2 ∧ L1 = L2) ∨ (vp_in x1 8 ∧ ¬ x2 < 0 ∧ x2 ≤ (nI ne) ∧ glg (sI I1 136 0 0) lc (L1 145) x1.toNatClampNeg x2.toNatClampNeg = b ∧ (sI I1 136 0 0) = I2 ∧ (gsc (sI I1 136 0 0) lc L1 x2.toNatClampNeg) = L2) ∨ (¬ vp_in x1 8 ∧ (0 : Int64) = b ∧ (sI I1 136 0 1) = I2 ∧ L1 = L2) := by
  have hI0 : ∀ k, 136 < k → I1 k = I k := fun k hk => hI k (by omega)
  have hIs : ∀ k, 136 < k → (sI I1 136 0 0) k = I k := fun k hk => (s_row rfl k hk).trans (hI k (by omega))
  rcases hm with ⟨m0, m1, e0, e1, e2⟩ | ⟨m0, m1, m2, e0, e1, e2⟩ | ⟨m0, m1, m2, e0, e1, e2⟩ | ⟨m0, e0, e1, e2⟩
  · exact Or.inl (⟨m0, m1, e0, e1, e2⟩)
  · exact Or.inr (Or.inl (⟨m0, m1, (show nI ne < x2 ↔ ¬ x2 ≤ nI ne from Int32.not_le.symm).mp m2, e0, e1, e2⟩))
  · exact Or.inr (Or.inr (Or.inl (⟨m0, m1, Decidable.not_not.mp (fun z => m2 ((show nI ne < x2 ↔ ¬ x2 ≤ nI ne from Int32.not_le.symm).mpr z)), e0, e1, e2⟩)))
  · exact Or.inr (Or.inr (Or.inr ((⟨m0, e0, e1, e2⟩))))
set_option maxHeartbeats 8000000 in
theorem op_balanceAt {np ne : Nat} {lc : Nat → Nat} {I I1 : MI} {L L1 : ML} {x1 : Int32} {x2 : Int32} (h : Inv np ne lc I L) {k : Int32} (hc : pq_L_balanceAt ne x1 x2 I L k I1 L1) : iRI I I1 ∧ ∀ (b : Int64) (I2 : MI) (L2 : ML), pq_X4_balanceAt ne lc x1 x2 I1 L1 b I2 L2 → iO k (L2 135 0 = b) I2 L2 := by
  have h40 := h.ne40
  have h10 := h.np10
  rcases hc with (⟨v, L9, (⟨c0, c1, c2, rfl, rfl, rfl⟩), rfl, rfl⟩) | ⟨(⟨c0, cE, rfl, rfl⟩ | ⟨c0, c1, cE, rfl, rfl⟩ | ⟨c0, c1, c2, cE, rfl, rfl⟩), rfl⟩
  · have u0 := (vp_ix c0).2
    refine ⟨fun c hc => by (first | rfl | (simp (disch := omega) only [sI_row])), fun b I2 L2 hm => ?_⟩
    have hm := mn_balanceAt h (fun c hc => by (first | rfl | (simp (disch := omega) only [sI_row]))) (fun c hc => by (first | rfl | (simp (disch := omega) only [sL_row, gSS_o, gsc_o, gPW_0, gcp_o, gRL_o, gRS_o, gRM_o, gRT_o, va_up_ne]))) hm
    rcases hm with ⟨m0, m1, rfl, rfl, rfl⟩ | ⟨m0, m1, m2, rfl, rfl, rfl⟩ | ⟨m0, m1, m2, rfl, rfl, rfl⟩ | ⟨m0, rfl, rfl, rfl⟩
    all_goals first | contradiction | (exact iO_r h (by (simp (disch := omega) only [sI_at, sL_at, true_and, and_true, and_self, if_true, if_neg, if_pos])) (by rw [gsc_o _ _ _ (by decide), sL_eq]; exact b_bat h c0 c1 c2) (fun c j hc => by (simp (disch := omega) only [sI_at, sL_at, true_and, and_true, and_self, if_true, if_neg, if_pos])) (fun c h1 h2 h3 => by (first | rfl | (simp (disch := omega) only [sL_row, gSS_o, gsc_o, gPW_0, gcp_o, gRL_o, gRS_o, gRM_o, gRT_o, va_up_ne]))))
  · refine ⟨fun c hc => by (first | rfl | (simp (disch := omega) only [sI_row])), fun b I2 L2 hm => ?_⟩
    have hm := mn_balanceAt h (fun c hc => by (first | rfl | (simp (disch := omega) only [sI_row]))) (fun c hc => by (first | rfl | (simp (disch := omega) only [sL_row, gSS_o, gsc_o, gPW_0, gcp_o, gRL_o, gRS_o, gRM_o, gRT_o, va_up_ne]))) hm
    rcases hm with ⟨m0, m1, rfl, rfl, rfl⟩ | ⟨m0, m1, m2, rfl, rfl, rfl⟩ | ⟨m0, m1, m2, rfl, rfl, rfl⟩ | ⟨m0, rfl, rfl, rfl⟩
    all_goals first | contradiction | (exact iO_t h (by decide) (by (simp (disch := omega) only [sI_at, sL_at, true_and, and_true, and_self, if_true, if_neg, if_pos])) (fun c j hc => by (simp (disch := omega) only [sI_at, sL_at, true_and, and_true, and_self, if_true, if_neg, if_pos])) (fun c h1 h2 h3 => by (first | rfl | (simp (disch := omega) only [sL_row, gSS_o, gsc_o, gPW_0, gcp_o, gRL_o, gRS_o, gRM_o, gRT_o, va_up_ne]))))
  · refine ⟨fun c hc => by (first | rfl | (simp (disch := omega) only [sI_row])), fun b I2 L2 hm => ?_⟩
    have hm := mn_balanceAt h (fun c hc => by (first | rfl | (simp (disch := omega) only [sI_row]))) (fun c hc => by (first | rfl | (simp (disch := omega) only [sL_row, gSS_o, gsc_o, gPW_0, gcp_o, gRL_o, gRS_o, gRM_o, gRT_o, va_up_ne]))) hm
    rcases hm with ⟨m0, m1, rfl, rfl, rfl⟩ | ⟨m0, m1, m2, rfl, rfl, rfl⟩ | ⟨m0, m1, m2, rfl, rfl, rfl⟩ | ⟨m0, rfl, rfl, rfl⟩
    all_goals first | contradiction | (exact iO_t h (by decide) (by (simp (disch := omega) only [sI_at, sL_at, true_and, and_true, and_self, if_true, if_neg, if_pos])) (fun c j hc => by (simp (disch := omega) only [sI_at, sL_at, true_and, and_true, and_self, if_true, if_neg, if_pos])) (fun c h1 h2 h3 => by (first | rfl | (simp (disch := omega) only [sL_row, gSS_o, gsc_o, gPW_0, gcp_o, gRL_o, gRS_o, gRM_o, gRT_o, va_up_ne]))))
  · refine ⟨fun c hc => by (first | rfl | (simp (disch := omega) only [sI_row])), fun b I2 L2 hm => ?_⟩
    have hm := mn_balanceAt h (fun c hc => by (first | rfl | (simp (disch := omega) only [sI_row]))) (fun c hc => by (first | rfl | (simp (disch := omega) only [sL_row, gSS_o, gsc_o, gPW_0, gcp_o, gRL_o, gRS_o, gRM_o, gRT_o, va_up_ne]))) hm
    rcases hm with ⟨m0, m1, rfl, rfl, rfl⟩ | ⟨m0, m1, m2, rfl, rfl, rfl⟩ | ⟨m0, m1, m2, rfl, rfl, rfl⟩ | ⟨m0, rfl, rfl, rfl⟩
    all_goals first | contradiction | (exact iO_t h (by decide) (by (simp (disch := omega) only [sI_at, sL_at, true_and, and_true, and_self, if_true, if_neg, if_pos])) (fun c j hc => by (simp (disch := omega) only [sI_at, sL_at, true_and, and_true, and_self, if_true, if_neg, if_pos])) (fun c h1 h2 h3 => by (first | rfl | (simp (disch := omega) only [sL_row, gSS_o, gsc_o, gPW_0, gcp_o, gRL_o, gRS_o, gRM_o, gRT_o, va_up_ne]))))
set_option maxHeartbeats 4000000 in
theorem mn_entry {np ne : Nat} {lc : Nat → Nat} {I I1 I2 : MI} {L L1 L2 : ML} {x1 : Int32} {x2 : Int32} (h : Inv np ne lc I L) (hI : iRI I I1) (hL : iRL L L1) {b : Int32} (hm : pq_X4_entry ne x1 x2 I1 L1 b I2 L2) : (vp_in x1 ne ∧ x2 < 0 ∧ (0 : Int32) = b ∧ (sI I1 136 0 1) = I2 ∧ L1 = L2) ∨ (vp_in x1 ne ∧ ¬ x2 < 0 ∧ 4 < x2 ∧ (0 : Int32) = b ∧ (sI I1 136 0 1) = I2 ∧ L1 = L2) ∨ (vp_in x1 ne ∧ ¬ x2 < 0 ∧ ¬ 4 < x2 ∧ ¬ x2 = 0 ∧ ¬ x2 = 1 ∧ ¬ x2 = 2 ∧ ¬ x2 = 3 ∧ I1 149 x1.toNatClampNeg = b ∧ (sI I1 136 0 0) = I2 ∧ L1 = L2) ∨ (vp_in x1 ne ∧ ¬ x2 < 0 ∧ ¬ 4 < x2 ∧ ¬ x2 = 0 ∧ ¬ x2 = 1 ∧ ¬ x2 = 2 ∧ x2 = 3 ∧ I1 148 x1.toNatClampNeg = b ∧ (sI I1 136 0 0) = I2 ∧ L1 = L2) ∨ (vp_in x1 ne ∧ ¬ x2 < 0 ∧ ¬ 4 < x2 ∧ ¬ x2 = 0 ∧ ¬ x2 = 1 ∧ x2 = 2 ∧ I1 147 x1.toNatClampNeg = b ∧ (sI I1 136 0 0) = I2 ∧ L1 = L2) ∨ (vp_in x1 ne ∧ ¬ x2 < 0 ∧ ¬ 4 < x2 ∧ ¬ x2 = 0 ∧ x2 = 1 ∧ I1 146 x1.toNatClampNeg = b ∧ (sI I1 136 0 0) = I2 ∧ L1 = L2) ∨ (vp_in x1 ne ∧ ¬ x2 < 0 ∧ ¬ 4 < x2 ∧ x2 = 0 ∧ I1 144 x1.toNatClampNeg = b ∧ (sI I1 136 0 0) = I2 ∧ L1 = L2) ∨ (¬ vp_in x1 ne ∧ (0 : Int32) = b ∧ (sI I1 136 0 1) = I2 ∧ L1 = L2) := by
  have hI0 : ∀ k, 136 < k → I1 k = I k := fun k hk => hI k (by omega)
  have hIs : ∀ k, 136 < k → (sI I1 136 0 0) k = I k := fun k hk => (s_row rfl k hk).trans (hI k (by omega))
  rcases hm with ⟨m0, m1, e0, e1, e2⟩ | ⟨m0, m1, m2, e0, e1, e2⟩ | ⟨m0, m1, m2, m3, m4, m5, m6, e0, e1, e2⟩ | ⟨m0, m1, m2, m3, m4, m5, m6, e0, e1, e2⟩ | ⟨m0, m1, m2, m3, m4, m5, e0, e1, e2⟩ | ⟨m0, m1, m2, m3, m4, e0, e1, e2⟩ | ⟨m0, m1, m2, m3, e0, e1, e2⟩ | ⟨m0, e0, e1, e2⟩
  · exact Or.inl (⟨m0, m1, e0, e1, e2⟩)
  · exact Or.inr (Or.inl (⟨m0, m1, m2, e0, e1, e2⟩))
  · exact Or.inr (Or.inr (Or.inl (⟨m0, m1, m2, m3, m4, m5, m6, e0, e1, e2⟩)))
  · exact Or.inr (Or.inr (Or.inr (Or.inl (⟨m0, m1, m2, m3, m4, m5, m6, e0, e1, e2⟩))))
  · exact Or.inr (Or.inr (Or.inr (Or.inr (Or.inl (⟨m0, m1, m2, m3, m4, m5, e0, e1, e2⟩)))))
  · exact Or.inr (Or.inr (Or.inr (Or.inr (Or.inr (Or.inl (⟨m0, m1, m2, m3, m4, e0, e1, e2⟩))))))
  · exact Or.inr (Or.inr (Or.inr (Or.inr (Or.inr (Or.inr (Or.inl (⟨m0, m1, m2, m3, e0, e1, e2⟩)))))))
  · exact Or.inr (Or.inr (Or.inr (Or.inr (Or.inr (Or.inr (Or.inr ((⟨m0, e0, e1, e2⟩))))))))
set_option maxHeartbeats 8000000 in
theorem op_entry {np ne : Nat} {lc : Nat → Nat} {I I1 : MI} {L L1 : ML} {x1 : Int32} {x2 : Int32} (h : Inv np ne lc I L) {k : Int32} (hc : pq_L_entry ne x1 x2 I L k I1 L1) : iRI I I1 ∧ ∀ (b : Int32) (I2 : MI) (L2 : ML), pq_X4_entry ne x1 x2 I1 L1 b I2 L2 → iO k (L2 135 0 = b.toInt64) I2 L2 := by
  have h40 := h.ne40
  have h10 := h.np10
  rcases hc with (⟨v, L9, (⟨c0, rfl, rfl, rfl, rfl⟩ | ⟨c0, c1, rfl, rfl, rfl, rfl⟩ | ⟨c0, c1, c2, rfl, rfl, rfl, rfl⟩ | ⟨c0, c1, c2, c3, rfl, rfl, rfl, rfl⟩ | ⟨c0, c1, c2, c3, c4, rfl, rfl, rfl, rfl⟩), rfl, rfl⟩) | ⟨(⟨c0, cE, rfl, rfl⟩ | ⟨c0, c1, c2, c3, c4, c5, cE, rfl, rfl⟩), rfl⟩
  · have u0 := (vp_ix c0).2
    refine ⟨fun c hc => by (first | rfl | (simp (disch := omega) only [sI_row])), fun b I2 L2 hm => ?_⟩
    have hm := mn_entry h (fun c hc => by (first | rfl | (simp (disch := omega) only [sI_row]))) (fun c hc => by (first | rfl | (simp (disch := omega) only [sL_row, gSS_o, gsc_o, gPW_0, gcp_o, gRL_o, gRS_o, gRM_o, gRT_o, va_up_ne]))) hm
    rcases hm with ⟨m0, m1, rfl, rfl, rfl⟩ | ⟨m0, m1, m2, rfl, rfl, rfl⟩ | ⟨m0, m1, m2, m3, m4, m5, m6, rfl, rfl, rfl⟩ | ⟨m0, m1, m2, m3, m4, m5, m6, rfl, rfl, rfl⟩ | ⟨m0, m1, m2, m3, m4, m5, rfl, rfl, rfl⟩ | ⟨m0, m1, m2, m3, m4, rfl, rfl, rfl⟩ | ⟨m0, m1, m2, m3, rfl, rfl, rfl⟩ | ⟨m0, rfl, rfl, rfl⟩
    all_goals first | contradiction | (exact absurd m1 (by decide)) | (exact absurd m2 (by decide)) | (exact absurd m3 (by decide)) | (exact absurd m4 (by decide)) | (exact absurd m5 (by decide)) | (exact absurd m6 (by decide)) | (exact absurd rfl m3) | (exact absurd rfl m4) | (exact absurd rfl m5) | (exact absurd rfl m6) | (exact iO_r h (by (simp (disch := omega) only [sI_at, sL_at, true_and, and_true, and_self, if_true, if_neg, if_pos])) (by have e := b_nf h m0; simp only [sL_eq, e.1, e.2.2.2.2.1, e.2.2.2.2.2.1, e.2.2.2.2.2.2.1, e.2.2.2.2.2.2.2.2.1]) (fun c j hc => by (simp (disch := omega) only [sI_at, sL_at, true_and, and_true, and_self, if_true, if_neg, if_pos])) (fun c h1 h2 h3 => by (first | rfl | (simp (disch := omega) only [sL_row, gSS_o, gsc_o, gPW_0, gcp_o, gRL_o, gRS_o, gRM_o, gRT_o, va_up_ne]))))
  · have u0 := (vp_ix c0).2
    refine ⟨fun c hc => by (first | rfl | (simp (disch := omega) only [sI_row])), fun b I2 L2 hm => ?_⟩
    have hm := mn_entry h (fun c hc => by (first | rfl | (simp (disch := omega) only [sI_row]))) (fun c hc => by (first | rfl | (simp (disch := omega) only [sL_row, gSS_o, gsc_o, gPW_0, gcp_o, gRL_o, gRS_o, gRM_o, gRT_o, va_up_ne]))) hm
    rcases hm with ⟨m0, m1, rfl, rfl, rfl⟩ | ⟨m0, m1, m2, rfl, rfl, rfl⟩ | ⟨m0, m1, m2, m3, m4, m5, m6, rfl, rfl, rfl⟩ | ⟨m0, m1, m2, m3, m4, m5, m6, rfl, rfl, rfl⟩ | ⟨m0, m1, m2, m3, m4, m5, rfl, rfl, rfl⟩ | ⟨m0, m1, m2, m3, m4, rfl, rfl, rfl⟩ | ⟨m0, m1, m2, m3, rfl, rfl, rfl⟩ | ⟨m0, rfl, rfl, rfl⟩
    all_goals first | contradiction | (exact absurd m1 (by decide)) | (exact absurd m2 (by decide)) | (exact absurd m3 (by decide)) | (exact absurd m4 (by decide)) | (exact absurd m5 (by decide)) | (exact absurd m6 (by decide)) | (exact absurd rfl m3) | (exact absurd rfl m4) | (exact absurd rfl m5) | (exact absurd rfl m6) | (exact iO_r h (by (simp (disch := omega) only [sI_at, sL_at, true_and, and_true, and_self, if_true, if_neg, if_pos])) (by have e := b_nf h m0; simp only [sL_eq, e.1, e.2.2.2.2.1, e.2.2.2.2.2.1, e.2.2.2.2.2.2.1, e.2.2.2.2.2.2.2.2.1]) (fun c j hc => by (simp (disch := omega) only [sI_at, sL_at, true_and, and_true, and_self, if_true, if_neg, if_pos])) (fun c h1 h2 h3 => by (first | rfl | (simp (disch := omega) only [sL_row, gSS_o, gsc_o, gPW_0, gcp_o, gRL_o, gRS_o, gRM_o, gRT_o, va_up_ne]))))
  · have u0 := (vp_ix c0).2
    refine ⟨fun c hc => by (first | rfl | (simp (disch := omega) only [sI_row])), fun b I2 L2 hm => ?_⟩
    have hm := mn_entry h (fun c hc => by (first | rfl | (simp (disch := omega) only [sI_row]))) (fun c hc => by (first | rfl | (simp (disch := omega) only [sL_row, gSS_o, gsc_o, gPW_0, gcp_o, gRL_o, gRS_o, gRM_o, gRT_o, va_up_ne]))) hm
    rcases hm with ⟨m0, m1, rfl, rfl, rfl⟩ | ⟨m0, m1, m2, rfl, rfl, rfl⟩ | ⟨m0, m1, m2, m3, m4, m5, m6, rfl, rfl, rfl⟩ | ⟨m0, m1, m2, m3, m4, m5, m6, rfl, rfl, rfl⟩ | ⟨m0, m1, m2, m3, m4, m5, rfl, rfl, rfl⟩ | ⟨m0, m1, m2, m3, m4, rfl, rfl, rfl⟩ | ⟨m0, m1, m2, m3, rfl, rfl, rfl⟩ | ⟨m0, rfl, rfl, rfl⟩
    all_goals first | contradiction | (exact absurd m1 (by decide)) | (exact absurd m2 (by decide)) | (exact absurd m3 (by decide)) | (exact absurd m4 (by decide)) | (exact absurd m5 (by decide)) | (exact absurd m6 (by decide)) | (exact absurd rfl m3) | (exact absurd rfl m4) | (exact absurd rfl m5) | (exact absurd rfl m6) | (exact iO_r h (by (simp (disch := omega) only [sI_at, sL_at, true_and, and_true, and_self, if_true, if_neg, if_pos])) (by have e := b_nf h m0; simp only [sL_eq, e.1, e.2.2.2.2.1, e.2.2.2.2.2.1, e.2.2.2.2.2.2.1, e.2.2.2.2.2.2.2.2.1]) (fun c j hc => by (simp (disch := omega) only [sI_at, sL_at, true_and, and_true, and_self, if_true, if_neg, if_pos])) (fun c h1 h2 h3 => by (first | rfl | (simp (disch := omega) only [sL_row, gSS_o, gsc_o, gPW_0, gcp_o, gRL_o, gRS_o, gRM_o, gRT_o, va_up_ne]))))
  · have u0 := (vp_ix c0).2
    refine ⟨fun c hc => by (first | rfl | (simp (disch := omega) only [sI_row])), fun b I2 L2 hm => ?_⟩
    have hm := mn_entry h (fun c hc => by (first | rfl | (simp (disch := omega) only [sI_row]))) (fun c hc => by (first | rfl | (simp (disch := omega) only [sL_row, gSS_o, gsc_o, gPW_0, gcp_o, gRL_o, gRS_o, gRM_o, gRT_o, va_up_ne]))) hm
    rcases hm with ⟨m0, m1, rfl, rfl, rfl⟩ | ⟨m0, m1, m2, rfl, rfl, rfl⟩ | ⟨m0, m1, m2, m3, m4, m5, m6, rfl, rfl, rfl⟩ | ⟨m0, m1, m2, m3, m4, m5, m6, rfl, rfl, rfl⟩ | ⟨m0, m1, m2, m3, m4, m5, rfl, rfl, rfl⟩ | ⟨m0, m1, m2, m3, m4, rfl, rfl, rfl⟩ | ⟨m0, m1, m2, m3, rfl, rfl, rfl⟩ | ⟨m0, rfl, rfl, rfl⟩
    all_goals first | contradiction | (exact absurd m1 (by decide)) | (exact absurd m2 (by decide)) | (exact absurd m3 (by decide)) | (exact absurd m4 (by decide)) | (exact absurd m5 (by decide)) | (exact absurd m6 (by decide)) | (exact absurd rfl m3) | (exact absurd rfl m4) | (exact absurd rfl m5) | (exact absurd rfl m6) | (exact iO_r h (by (simp (disch := omega) only [sI_at, sL_at, true_and, and_true, and_self, if_true, if_neg, if_pos])) (by have e := b_nf h m0; simp only [sL_eq, e.1, e.2.2.2.2.1, e.2.2.2.2.2.1, e.2.2.2.2.2.2.1, e.2.2.2.2.2.2.2.2.1]) (fun c j hc => by (simp (disch := omega) only [sI_at, sL_at, true_and, and_true, and_self, if_true, if_neg, if_pos])) (fun c h1 h2 h3 => by (first | rfl | (simp (disch := omega) only [sL_row, gSS_o, gsc_o, gPW_0, gcp_o, gRL_o, gRS_o, gRM_o, gRT_o, va_up_ne]))))
  · have u0 := (vp_ix c0).2
    refine ⟨fun c hc => by (first | rfl | (simp (disch := omega) only [sI_row])), fun b I2 L2 hm => ?_⟩
    have hm := mn_entry h (fun c hc => by (first | rfl | (simp (disch := omega) only [sI_row]))) (fun c hc => by (first | rfl | (simp (disch := omega) only [sL_row, gSS_o, gsc_o, gPW_0, gcp_o, gRL_o, gRS_o, gRM_o, gRT_o, va_up_ne]))) hm
    rcases hm with ⟨m0, m1, rfl, rfl, rfl⟩ | ⟨m0, m1, m2, rfl, rfl, rfl⟩ | ⟨m0, m1, m2, m3, m4, m5, m6, rfl, rfl, rfl⟩ | ⟨m0, m1, m2, m3, m4, m5, m6, rfl, rfl, rfl⟩ | ⟨m0, m1, m2, m3, m4, m5, rfl, rfl, rfl⟩ | ⟨m0, m1, m2, m3, m4, rfl, rfl, rfl⟩ | ⟨m0, m1, m2, m3, rfl, rfl, rfl⟩ | ⟨m0, rfl, rfl, rfl⟩
    all_goals first | contradiction | (exact absurd m1 (by decide)) | (exact absurd m2 (by decide)) | (exact absurd m3 (by decide)) | (exact absurd m4 (by decide)) | (exact absurd m5 (by decide)) | (exact absurd m6 (by decide)) | (exact absurd rfl m3) | (exact absurd rfl m4) | (exact absurd rfl m5) | (exact absurd rfl m6) | (exact iO_r h (by (simp (disch := omega) only [sI_at, sL_at, true_and, and_true, and_self, if_true, if_neg, if_pos])) (by have e := b_nf h m0; simp only [sL_eq, e.1, e.2.2.2.2.1, e.2.2.2.2.2.1, e.2.2.2.2.2.2.1, e.2.2.2.2.2.2.2.2.1]) (fun c j hc => by (simp (disch := omega) only [sI_at, sL_at, true_and, and_true, and_self, if_true, if_neg, if_pos])) (fun c h1 h2 h3 => by (first | rfl | (simp (disch := omega) only [sL_row, gSS_o, gsc_o, gPW_0, gcp_o, gRL_o, gRS_o, gRM_o, gRT_o, va_up_ne]))))
  · refine ⟨fun c hc => by (first | rfl | (simp (disch := omega) only [sI_row])), fun b I2 L2 hm => ?_⟩
    have hm := mn_entry h (fun c hc => by (first | rfl | (simp (disch := omega) only [sI_row]))) (fun c hc => by (first | rfl | (simp (disch := omega) only [sL_row, gSS_o, gsc_o, gPW_0, gcp_o, gRL_o, gRS_o, gRM_o, gRT_o, va_up_ne]))) hm
    rcases hm with ⟨m0, m1, rfl, rfl, rfl⟩ | ⟨m0, m1, m2, rfl, rfl, rfl⟩ | ⟨m0, m1, m2, m3, m4, m5, m6, rfl, rfl, rfl⟩ | ⟨m0, m1, m2, m3, m4, m5, m6, rfl, rfl, rfl⟩ | ⟨m0, m1, m2, m3, m4, m5, rfl, rfl, rfl⟩ | ⟨m0, m1, m2, m3, m4, rfl, rfl, rfl⟩ | ⟨m0, m1, m2, m3, rfl, rfl, rfl⟩ | ⟨m0, rfl, rfl, rfl⟩
    all_goals first | contradiction | (exact absurd (b_04 m1 m2 m3 m4 m5 m6) c5) | (exact iO_t h (by decide) (by (simp (disch := omega) only [sI_at, sL_at, true_and, and_true, and_self, if_true, if_neg, if_pos])) (fun c j hc => by (simp (disch := omega) only [sI_at, sL_at, true_and, and_true, and_self, if_true, if_neg, if_pos])) (fun c h1 h2 h3 => by (first | rfl | (simp (disch := omega) only [sL_row, gSS_o, gsc_o, gPW_0, gcp_o, gRL_o, gRS_o, gRM_o, gRT_o, va_up_ne]))))
  · refine ⟨fun c hc => by (first | rfl | (simp (disch := omega) only [sI_row])), fun b I2 L2 hm => ?_⟩
    have hm := mn_entry h (fun c hc => by (first | rfl | (simp (disch := omega) only [sI_row]))) (fun c hc => by (first | rfl | (simp (disch := omega) only [sL_row, gSS_o, gsc_o, gPW_0, gcp_o, gRL_o, gRS_o, gRM_o, gRT_o, va_up_ne]))) hm
    rcases hm with ⟨m0, m1, rfl, rfl, rfl⟩ | ⟨m0, m1, m2, rfl, rfl, rfl⟩ | ⟨m0, m1, m2, m3, m4, m5, m6, rfl, rfl, rfl⟩ | ⟨m0, m1, m2, m3, m4, m5, m6, rfl, rfl, rfl⟩ | ⟨m0, m1, m2, m3, m4, m5, rfl, rfl, rfl⟩ | ⟨m0, m1, m2, m3, m4, rfl, rfl, rfl⟩ | ⟨m0, m1, m2, m3, rfl, rfl, rfl⟩ | ⟨m0, rfl, rfl, rfl⟩
    all_goals first | contradiction | (exact absurd (b_04 m1 m2 m3 m4 m5 m6) c5) | (exact iO_t h (by decide) (by (simp (disch := omega) only [sI_at, sL_at, true_and, and_true, and_self, if_true, if_neg, if_pos])) (fun c j hc => by (simp (disch := omega) only [sI_at, sL_at, true_and, and_true, and_self, if_true, if_neg, if_pos])) (fun c h1 h2 h3 => by (first | rfl | (simp (disch := omega) only [sL_row, gSS_o, gsc_o, gPW_0, gcp_o, gRL_o, gRS_o, gRM_o, gRT_o, va_up_ne]))))
set_option maxHeartbeats 4000000 in
theorem mn_amount {np ne : Nat} {lc : Nat → Nat} {I I1 I2 : MI} {L L1 L2 : ML} {x1 : Int32} (h : Inv np ne lc I L) (hI : iRI I I1) (hL : iRL L L1) {b : Int64} (hm : pq_X4_amount ne x1 I1 L1 b I2 L2) : (vp_in x1 ne ∧ L1 145 x1.toNatClampNeg = b ∧ (sI I1 136 0 0) = I2 ∧ L1 = L2) ∨ (¬ vp_in x1 ne ∧ (0 : Int64) = b ∧ (sI I1 136 0 1) = I2 ∧ L1 = L2) := by
  have hI0 : ∀ k, 136 < k → I1 k = I k := fun k hk => hI k (by omega)
  have hIs : ∀ k, 136 < k → (sI I1 136 0 0) k = I k := fun k hk => (s_row rfl k hk).trans (hI k (by omega))
  rcases hm with ⟨m0, e0, e1, e2⟩ | ⟨m0, e0, e1, e2⟩
  · exact Or.inl (⟨m0, e0, e1, e2⟩)
  · exact Or.inr ((⟨m0, e0, e1, e2⟩))
set_option maxHeartbeats 8000000 in
theorem op_amount {np ne : Nat} {lc : Nat → Nat} {I I1 : MI} {L L1 : ML} {x1 : Int32} (h : Inv np ne lc I L) {k : Int32} (hc : pq_L_amount ne x1 I L k I1 L1) : iRI I I1 ∧ ∀ (b : Int64) (I2 : MI) (L2 : ML), pq_X4_amount ne x1 I1 L1 b I2 L2 → iO k (L2 135 0 = b) I2 L2 := by
  have h40 := h.ne40
  have h10 := h.np10
  rcases hc with (⟨v, L9, (⟨c0, rfl, rfl, rfl⟩), rfl, rfl⟩) | ⟨(⟨c0, cE, rfl, rfl⟩), rfl⟩
  · have u0 := (vp_ix c0).2
    refine ⟨fun c hc => by (first | rfl | (simp (disch := omega) only [sI_row])), fun b I2 L2 hm => ?_⟩
    have hm := mn_amount h (fun c hc => by (first | rfl | (simp (disch := omega) only [sI_row]))) (fun c hc => by (first | rfl | (simp (disch := omega) only [sL_row, gSS_o, gsc_o, gPW_0, gcp_o, gRL_o, gRS_o, gRM_o, gRT_o, va_up_ne]))) hm
    rcases hm with ⟨m0, rfl, rfl, rfl⟩ | ⟨m0, rfl, rfl, rfl⟩
    all_goals first | contradiction | (exact iO_r h (by (simp (disch := omega) only [sI_at, sL_at, true_and, and_true, and_self, if_true, if_neg, if_pos])) (by have e := b_nf h m0; rw [sL_eq, e.2.2.2.1]; (simp (disch := omega) only [sI_at, sL_at, true_and, and_true, and_self, if_true, if_neg, if_pos])) (fun c j hc => by (simp (disch := omega) only [sI_at, sL_at, true_and, and_true, and_self, if_true, if_neg, if_pos])) (fun c h1 h2 h3 => by (first | rfl | (simp (disch := omega) only [sL_row, gSS_o, gsc_o, gPW_0, gcp_o, gRL_o, gRS_o, gRM_o, gRT_o, va_up_ne]))))
  · refine ⟨fun c hc => by (first | rfl | (simp (disch := omega) only [sI_row])), fun b I2 L2 hm => ?_⟩
    have hm := mn_amount h (fun c hc => by (first | rfl | (simp (disch := omega) only [sI_row]))) (fun c hc => by (first | rfl | (simp (disch := omega) only [sL_row, gSS_o, gsc_o, gPW_0, gcp_o, gRL_o, gRS_o, gRM_o, gRT_o, va_up_ne]))) hm
    rcases hm with ⟨m0, rfl, rfl, rfl⟩ | ⟨m0, rfl, rfl, rfl⟩
    all_goals first | contradiction | (exact iO_t h (by decide) (by (simp (disch := omega) only [sI_at, sL_at, true_and, and_true, and_self, if_true, if_neg, if_pos])) (fun c j hc => by (simp (disch := omega) only [sI_at, sL_at, true_and, and_true, and_self, if_true, if_neg, if_pos])) (fun c h1 h2 h3 => by (first | rfl | (simp (disch := omega) only [sL_row, gSS_o, gsc_o, gPW_0, gcp_o, gRL_o, gRS_o, gRM_o, gRT_o, va_up_ne]))))
set_option maxHeartbeats 4000000 in
theorem mn_requested {np ne : Nat} {lc : Nat → Nat} {I I1 I2 : MI} {L L1 L2 : ML} {x1 : Int32} (h : Inv np ne lc I L) (hI : iRI I I1) (hL : iRL L L1) {b : Int32} (hm : pq_X4_requested x1 I1 L1 b I2 L2) : (x1 < 0 ∧ (0 : Int32) = b ∧ (sI I1 136 0 1) = I2 ∧ L1 = L2) ∨ (¬ x1 < 0 ∧ ¬ x1 < 6 ∧ (0 : Int32) = b ∧ (sI I1 136 0 1) = I2 ∧ L1 = L2) ∨ (¬ x1 < 0 ∧ x1 < 6 ∧ I1 150 x1.toNatClampNeg = b ∧ (sI I1 136 0 0) = I2 ∧ L1 = L2) := by
  have hI0 : ∀ k, 136 < k → I1 k = I k := fun k hk => hI k (by omega)
  have hIs : ∀ k, 136 < k → (sI I1 136 0 0) k = I k := fun k hk => (s_row rfl k hk).trans (hI k (by omega))
  rcases hm with ⟨m0, e0, e1, e2⟩ | ⟨m0, m1, e0, e1, e2⟩ | ⟨m0, m1, e0, e1, e2⟩
  · exact Or.inl (⟨m0, e0, e1, e2⟩)
  · exact Or.inr (Or.inl (⟨m0, (show 6 ≤ x1 ↔ ¬ x1 < 6 from Int32.not_lt.symm).mp m1, e0, e1, e2⟩))
  · exact Or.inr (Or.inr ((⟨m0, Decidable.not_not.mp (fun z => m1 ((show 6 ≤ x1 ↔ ¬ x1 < 6 from Int32.not_lt.symm).mpr z)), e0, e1, e2⟩)))
set_option maxHeartbeats 8000000 in
theorem op_requested {np ne : Nat} {lc : Nat → Nat} {I I1 : MI} {L L1 : ML} {x1 : Int32} (h : Inv np ne lc I L) {k : Int32} (hc : pq_L_requested x1 I L k I1 L1) : iRI I I1 ∧ ∀ (b : Int32) (I2 : MI) (L2 : ML), pq_X4_requested x1 I1 L1 b I2 L2 → iO k (L2 135 0 = b.toInt64) I2 L2 := by
  have h40 := h.ne40
  have h10 := h.np10
  rcases hc with (⟨v, L9, (⟨c0, c1, rfl, rfl, rfl⟩), rfl, rfl⟩) | ⟨(⟨c0, cE, rfl, rfl⟩ | ⟨c0, c1, cE, rfl, rfl⟩), rfl⟩
  · refine ⟨fun c hc => by (first | rfl | (simp (disch := omega) only [sI_row])), fun b I2 L2 hm => ?_⟩
    have hm := mn_requested h (fun c hc => by (first | rfl | (simp (disch := omega) only [sI_row]))) (fun c hc => by (first | rfl | (simp (disch := omega) only [sL_row, gSS_o, gsc_o, gPW_0, gcp_o, gRL_o, gRS_o, gRM_o, gRT_o, va_up_ne]))) hm
    rcases hm with ⟨m0, rfl, rfl, rfl⟩ | ⟨m0, m1, rfl, rfl, rfl⟩ | ⟨m0, m1, rfl, rfl, rfl⟩
    all_goals first | contradiction | (exact iO_r h (by (simp (disch := omega) only [sI_at, sL_at, true_and, and_true, and_self, if_true, if_neg, if_pos])) (by rw [sL_eq, (h.g4 _ (vp_ix (b_in6 c0 c1)).2).1]) (fun c j hc => by (simp (disch := omega) only [sI_at, sL_at, true_and, and_true, and_self, if_true, if_neg, if_pos])) (fun c h1 h2 h3 => by (first | rfl | (simp (disch := omega) only [sL_row, gSS_o, gsc_o, gPW_0, gcp_o, gRL_o, gRS_o, gRM_o, gRT_o, va_up_ne]))))
  · refine ⟨fun c hc => by (first | rfl | (simp (disch := omega) only [sI_row])), fun b I2 L2 hm => ?_⟩
    have hm := mn_requested h (fun c hc => by (first | rfl | (simp (disch := omega) only [sI_row]))) (fun c hc => by (first | rfl | (simp (disch := omega) only [sL_row, gSS_o, gsc_o, gPW_0, gcp_o, gRL_o, gRS_o, gRM_o, gRT_o, va_up_ne]))) hm
    rcases hm with ⟨m0, rfl, rfl, rfl⟩ | ⟨m0, m1, rfl, rfl, rfl⟩ | ⟨m0, m1, rfl, rfl, rfl⟩
    all_goals first | contradiction | (exact iO_t h (by decide) (by (simp (disch := omega) only [sI_at, sL_at, true_and, and_true, and_self, if_true, if_neg, if_pos])) (fun c j hc => by (simp (disch := omega) only [sI_at, sL_at, true_and, and_true, and_self, if_true, if_neg, if_pos])) (fun c h1 h2 h3 => by (first | rfl | (simp (disch := omega) only [sL_row, gSS_o, gsc_o, gPW_0, gcp_o, gRL_o, gRS_o, gRM_o, gRT_o, va_up_ne]))))
  · refine ⟨fun c hc => by (first | rfl | (simp (disch := omega) only [sI_row])), fun b I2 L2 hm => ?_⟩
    have hm := mn_requested h (fun c hc => by (first | rfl | (simp (disch := omega) only [sI_row]))) (fun c hc => by (first | rfl | (simp (disch := omega) only [sL_row, gSS_o, gsc_o, gPW_0, gcp_o, gRL_o, gRS_o, gRM_o, gRT_o, va_up_ne]))) hm
    rcases hm with ⟨m0, rfl, rfl, rfl⟩ | ⟨m0, m1, rfl, rfl, rfl⟩ | ⟨m0, m1, rfl, rfl, rfl⟩
    all_goals first | contradiction | (exact iO_t h (by decide) (by (simp (disch := omega) only [sI_at, sL_at, true_and, and_true, and_self, if_true, if_neg, if_pos])) (fun c j hc => by (simp (disch := omega) only [sI_at, sL_at, true_and, and_true, and_self, if_true, if_neg, if_pos])) (fun c h1 h2 h3 => by (first | rfl | (simp (disch := omega) only [sL_row, gSS_o, gsc_o, gPW_0, gcp_o, gRL_o, gRS_o, gRM_o, gRT_o, va_up_ne]))))
