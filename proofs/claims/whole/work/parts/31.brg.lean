/-! requests, entries, sums: the reference's words in the class's -/
section BR
variable {np ne : Nat} {lc : Nat → Nat} {I J : MI} {L K : ML} {x y : Int32}
theorem b_rq (h : Inv np ne lc I L) (hI : ∀ k, 136 < k → J k = I k) : (vp_in x 6 ∧ ¬ J 150 x.toNatClampNeg < 0) ↔ (vp_in x 6 ∧ ¬ I (8 + x.toNatClampNeg) 0 = -1) :=
  ⟨fun z => ⟨z.1, fun e => z.2 ((b_req h hI (vp_ix z.1).2).mpr e)⟩, fun z => ⟨z.1, fun e => z.2 ((b_req h hI (vp_ix z.1).2).mp e)⟩⟩
/-- a request that is in use -/
theorem b_rf (h : Inv np ne lc I L) (hr : vp_in x 6 ∧ ¬ I (8 + x.toNatClampNeg) 0 = -1) : I 150 x.toNatClampNeg = I (8 + x.toNatClampNeg) 0 ∧ I 151 x.toNatClampNeg = I (8 + x.toNatClampNeg) 1 ∧ L 152 x.toNatClampNeg = L (8 + x.toNatClampNeg) 2 ∧ vp_in (I (8 + x.toNatClampNeg) 0) 8 ∧ vp_in (I (8 + x.toNatClampNeg) 1) np := by
  obtain ⟨a1, a2⟩ := h.g4 _ (vp_ix hr.1).2
  rcases a2 with a2 | ⟨a2, a3, a4, a5⟩
  · exact absurd (a1.trans a2) hr.2
  · exact ⟨a1.symm, a4.symm, a5.symm, by rw [a1]; exact a2, by rw [a4]; exact a3⟩
theorem b_ma (h : Inv np ne lc I L) (hI : ∀ k, 136 < k → J k = I k) (hy : vp_in y 8) (hr : vp_in x 6 ∧ ¬ I (8 + x.toNatClampNeg) 0 = -1) : (gMM J y y.toNatClampNeg (J 151 x.toNatClampNeg).toNatClampNeg ∧ ¬ J 150 x.toNatClampNeg = y) ↔ (gMR np I y (I (8 + x.toNatClampNeg) 1) ∧ ¬ I (8 + x.toNatClampNeg) 0 = y) := by
  obtain ⟨e1, e2, e3, e4, e5⟩ := b_rf h hr
  rw [hI 150 (by decide), hI 151 (by decide), e1, e2, b_may h hI hy e5]
theorem b_mq (h : Inv np ne lc I L) (hI : ∀ k, 136 < k → J k = I k) (hr : vp_in x 6 ∧ ¬ I (8 + x.toNatClampNeg) 0 = -1) : gMM J (J 150 x.toNatClampNeg) ((J 150 x.toNatClampNeg).toNatClampNeg) ((J 151 x.toNatClampNeg).toNatClampNeg) ↔ gMR np I (I (8 + x.toNatClampNeg) 0) (I (8 + x.toNatClampNeg) 1) := by
  obtain ⟨e1, e2, e3, e4, e5⟩ := b_rf h hr
  rw [hI 150 (by decide), hI 151 (by decide), e1, e2, b_may h hI e4 e5]
theorem b_me (h : Inv np ne lc I L) (hI : ∀ k, 136 < k → J k = I k) (hy : vp_in y 8) (hr : vp_in x 6 ∧ ¬ I (8 + x.toNatClampNeg) 0 = -1) : ((J 150 x.toNatClampNeg).toNatClampNeg) = y.toNatClampNeg ↔ (I (8 + x.toNatClampNeg) 0) = y := by
  obtain ⟨e1, e2, e3, e4, e5⟩ := b_rf h hr
  rw [hI 150 (by decide), e1]
  exact ⟨fun z => by rw [(vp_ix e4).1, (vp_ix hy).1, z], fun z => by rw [z]⟩
theorem b_fl (h : Inv np ne lc I L) (hI : ∀ k, 136 < k → J k = I k) (hL : iRL L K) (hr : vp_in x 6 ∧ ¬ I (8 + x.toNatClampNeg) 0 = -1) : (∀ k, k < (lc ((J 151 x.toNatClampNeg).toNatClampNeg)) → ¬ gfl (gmA (sI J 136 0 0) ((J 151 x.toNatClampNeg).toNatClampNeg)) ((gSS (sI J 136 0 0) lc K ne 8) 137) ((gSS (sI J 136 0 0) lc K ne 8) 138) (fun k => 1 * gpw (K 152 x.toNatClampNeg) (gmS (sI J 136 0 0) ((J 151 x.toNatClampNeg).toNatClampNeg)) (lc ((J 151 x.toNatClampNeg).toNatClampNeg)) ((gSS (sI J 136 0 0) lc K ne 8) 153) k) k) ↔ (∀ k, k < (lc ((I (8 + x.toNatClampNeg) 1).toNatClampNeg)) → ¬ gfl (I (96 + 4 * ((I (8 + x.toNatClampNeg) 1).toNatClampNeg))) ((gPW L (L (8 + x.toNatClampNeg) 2) (I (97 + 4 * ((I (8 + x.toNatClampNeg) 1).toNatClampNeg))) (lc ((I (8 + x.toNatClampNeg) 1).toNatClampNeg)) (-1)) 1) ((gPW L (L (8 + x.toNatClampNeg) 2) (I (97 + 4 * ((I (8 + x.toNatClampNeg) 1).toNatClampNeg))) (lc ((I (8 + x.toNatClampNeg) 1).toNatClampNeg)) (-1)) 2) ((gPW L (L (8 + x.toNatClampNeg) 2) (I (97 + 4 * ((I (8 + x.toNatClampNeg) 1).toNatClampNeg))) (lc ((I (8 + x.toNatClampNeg) 1).toNatClampNeg)) (-1)) 7) k) := by
  obtain ⟨e1, e2, e3, e4, e5⟩ := b_rf h hr
  have e2' : J 151 x.toNatClampNeg = I (8 + x.toNatClampNeg) 1 := by rw [hI 151 (by decide), e2]
  have e3' : K 152 x.toNatClampNeg = L (8 + x.toNatClampNeg) 2 := by rw [hL 152 (by decide), e3]
  rw [e2', e3']
  exact b_fail (M := L) h (fun k hk => (s_row rfl k hk).trans (hI k hk)) (Nat.lt_of_lt_of_le (vp_ix e5).2 h.np10) (Or.inl ⟨rfl, rfl⟩) rfl rfl ((gSS_o _ _ _ _ (by decide) 8).trans (hL 137 (by decide))) ((gSS_o _ _ _ _ (by decide) 8).trans (hL 138 (by decide)))
/-- an entry -/
theorem b_nf (h : Inv np ne lc I L) (hr : vp_in x ne) : I (14 + x.toNatClampNeg) 0 = I 144 x.toNatClampNeg ∧ vp_in (I 144 x.toNatClampNeg) np ∧ ¬ I (95 + 4 * (I 144 x.toNatClampNeg).toNatClampNeg) 3 = -1 ∧ L (14 + x.toNatClampNeg) 1 = L 145 x.toNatClampNeg ∧ I (14 + x.toNatClampNeg) 2 = I 146 x.toNatClampNeg ∧ I (14 + x.toNatClampNeg) 3 = I 147 x.toNatClampNeg ∧ I (14 + x.toNatClampNeg) 4 = I 148 x.toNatClampNeg ∧ (I 148 x.toNatClampNeg = -1 ∨ vp_in (I 148 x.toNatClampNeg) 40) ∧ I (14 + x.toNatClampNeg) 5 = I 149 x.toNatClampNeg ∧ (I 149 x.toNatClampNeg = -1 ∨ vp_in (I 149 x.toNatClampNeg) 40) :=
  (h.g5 _ (Nat.lt_of_lt_of_le (vp_ix hr).2 h.ne40)).1 (vp_ix hr).2
theorem b_ne (h : Inv np ne lc I L) (hI : ∀ k, 136 < k → J k = I k) (hy : vp_in y 8) (hr : vp_in x ne) : gMM J y y.toNatClampNeg ((J 144 x.toNatClampNeg).toNatClampNeg) ↔ gMR np I y (I (14 + x.toNatClampNeg) 0) := by
  have e := b_nf h hr
  rw [hI 144 (by decide), e.1, b_may h hI hy e.2.1]
theorem b_n2 (h : Inv np ne lc I L) (hI : ∀ k, 136 < k → J k = I k) (hr : vp_in x ne) : (J 146 x.toNatClampNeg) = y ↔ (I (14 + x.toNatClampNeg) 2) = y := by
  have e := b_nf h hr
  rw [hI 146 (by decide), e.2.2.2.2.1]
theorem b_n4 (h : Inv np ne lc I L) (hI : ∀ k, 136 < k → J k = I k) (hr : vp_in x ne) : 0 ≤ (J 148 x.toNatClampNeg) ↔ ¬ (I (14 + x.toNatClampNeg) 4) = (-1) := by
  have e := b_nf h hr
  rw [hI 148 (by decide), e.2.2.2.2.2.2.1, pos_1 e.2.2.2.2.2.2.2.1]
theorem b_n5 (h : Inv np ne lc I L) (hI : ∀ k, 136 < k → J k = I k) (hr : vp_in x ne) : (J 149 x.toNatClampNeg) < 0 ↔ (I (14 + x.toNatClampNeg) 5) = (-1) := by
  have e := b_nf h hr
  rw [hI 149 (by decide), e.2.2.2.2.2.2.2.2.1, neg_1 e.2.2.2.2.2.2.2.2.2]
theorem b_fn (h : Inv np ne lc I L) (hI : ∀ k, 136 < k → J k = I k) (hL : iRL L K) (hr : vp_in x ne) : (∀ k, k < (lc ((J 144 x.toNatClampNeg).toNatClampNeg)) → ¬ gfl (gmA (sI J 136 0 0) ((J 144 x.toNatClampNeg).toNatClampNeg)) ((gSS (sI J 136 0 0) lc K ne 8) 137) ((gSS (sI J 136 0 0) lc K ne 8) 138) (fun k => (-1 : Int64) * gpw (K 145 x.toNatClampNeg) (gmS (sI J 136 0 0) ((J 144 x.toNatClampNeg).toNatClampNeg)) (lc ((J 144 x.toNatClampNeg).toNatClampNeg)) ((gSS (sI J 136 0 0) lc K ne 8) 153) k) k) ↔ (∀ k, k < (lc ((I (14 + x.toNatClampNeg) 0).toNatClampNeg)) → ¬ gfl (I (96 + 4 * ((I (14 + x.toNatClampNeg) 0).toNatClampNeg))) ((gPW L (L (14 + x.toNatClampNeg) 1) (I (97 + 4 * ((I (14 + x.toNatClampNeg) 0).toNatClampNeg))) (lc ((I (14 + x.toNatClampNeg) 0).toNatClampNeg)) x) 1) ((gPW L (L (14 + x.toNatClampNeg) 1) (I (97 + 4 * ((I (14 + x.toNatClampNeg) 0).toNatClampNeg))) (lc ((I (14 + x.toNatClampNeg) 0).toNatClampNeg)) x) 2) ((gPW L (L (14 + x.toNatClampNeg) 1) (I (97 + 4 * ((I (14 + x.toNatClampNeg) 0).toNatClampNeg))) (lc ((I (14 + x.toNatClampNeg) 0).toNatClampNeg)) x) 7) k) := by
  have e := b_nf h hr
  have e2' : J 144 x.toNatClampNeg = I (14 + x.toNatClampNeg) 0 := by rw [hI 144 (by decide), e.1]
  have e3' : K 145 x.toNatClampNeg = L (14 + x.toNatClampNeg) 1 := by rw [hL 145 (by decide), e.2.2.2.1]
  have e5 : vp_in (I (14 + x.toNatClampNeg) 0) np := by rw [e.1]; exact e.2.1
  rw [e2', e3']
  exact b_fail (M := L) h (fun k hk => (s_row rfl k hk).trans (hI k hk)) (Nat.lt_of_lt_of_le (vp_ix e5).2 h.np10) (Or.inr ⟨rfl, vp_n1 hr⟩) rfl rfl ((gSS_o _ _ _ _ (by decide) 8).trans (hL 137 (by decide))) ((gSS_o _ _ _ _ (by decide) 8).trans (hL 138 (by decide)))
theorem b_t1 (h : Inv np ne lc I L) (hL : iRL L K) {v : Int64} (hy : vp_in y 8) : 1000000000000 < ((K 137 y.toNatClampNeg) + v) ↔ ¬ ((L 1 y.toNatClampNeg) + v) ≤ 1000000000000 := by
  rw [hL 137 (by decide), ← (h.g6 _ (vp_ix hy).2).1, Int64.not_le]
theorem b_t2 (h : Inv np ne lc I L) (hL : iRL L K) {v : Int64} (hy : vp_in y 8) : (-1000000000000) ≤ ((K 137 y.toNatClampNeg) + v) ↔ ¬ ((L 1 y.toNatClampNeg) + v) < (-1000000000000) := by
  rw [hL 137 (by decide), ← (h.g6 _ (vp_ix hy).2).1, Int64.not_lt]
theorem b_in6 (h0 : ¬ x < 0) (h1 : x < 6) : vp_in x 6 := vpA2 h0 h1 rfl
/-- 0 .. 4 -/
theorem b_04 (h0 : ¬ x < 0) (h1 : ¬ 4 < x) (e0 : ¬ x = 0) (e1 : ¬ x = 1) (e2 : ¬ x = 2) (e3 : ¬ x = 3) : x = 4 := by
  have a0 : ¬ x.toInt < (0 : Int32).toInt := fun z => h0 (Int32.lt_iff_toInt_lt.mpr z)
  have a1 : ¬ (4 : Int32).toInt < x.toInt := fun z => h1 (Int32.lt_iff_toInt_lt.mpr z)
  have b0 : ¬ x.toInt = (0 : Int32).toInt := fun z => e0 (Int32.toInt_inj.mp z)
  have b1 : ¬ x.toInt = (1 : Int32).toInt := fun z => e1 (Int32.toInt_inj.mp z)
  have b2 : ¬ x.toInt = (2 : Int32).toInt := fun z => e2 (Int32.toInt_inj.mp z)
  have b3 : ¬ x.toInt = (3 : Int32).toInt := fun z => e3 (Int32.toInt_inj.mp z)
  have v0 : (0 : Int32).toInt = 0 := rfl
  have v1 : (1 : Int32).toInt = 1 := rfl
  have v2 : (2 : Int32).toInt = 2 := rfl
  have v3 : (3 : Int32).toInt = 3 := rfl
  have v4 : (4 : Int32).toInt = 4 := rfl
  apply Int32.toInt_inj.mp
  omega
theorem b_gr (h : Inv np ne lc I L) (hI : ∀ k, 136 < k → J k = I k) {z : Int32} (hx : vp_in x 8) (hy : vp_in y np) : (J 143 ((8 * y.toNatClampNeg) + x.toNatClampNeg)) = z ↔ (I (98 + 4 * y.toNatClampNeg) x.toNatClampNeg) = z := by
  have h10 := h.np10
  have hy2 := (vp_ix hy).2
  rw [hI 143 (by decide), (h.g3 _ (by omega)).2.2.2 _ (vp_ix hx).2]
theorem Inv.restore (h : Inv np ne lc I L) {v : Int64} : Inv np ne lc (sI I 136 0 0) (gRT (sI I 136 0 0) lc (sL (gRS L ne 8) 135 0 v) ne 8) := by
  have h40 := h.ne40
  have hL : iRL L (sL (gRS L ne 8) 135 0 v) := fun c hc => by rw [sL_row (by omega), gRS_o (by omega)]
  refine (h.bal (K := gRT (sI I 136 0 0) lc (sL (gRS L ne 8) 135 0 v) ne 8) (fun a ha => ⟨?_, ?_⟩) (fun k h1 h2 h3 h4 h5 h6 h7 => ?_)).f (fun k j hk => ?_) (fun _ _ _ _ => rfl)
  · rw [gRT_o _ _ _ _ (by decide) (by decide), gRT_b, if_pos ha, b_glf h (fun k hk => s_row rfl k hk) hL (Nat.le_refl ne) ha, sL_row (by decide)]
    unfold gRS
    rw [va_up_self, if_pos ha]
  · rw [gRT_o _ _ _ _ (by decide) (by decide), gRT_o _ _ _ _ (by decide) (by decide), sL_row (by decide), sL_row (by decide), gRS_o (by decide), gRS_o (by decide)]
    exact (h.g6 a ha).2
  · rw [gRT_o _ _ _ _ h7 h5, sL_row h4, gRS_o h1]
  · rw [sI_at, if_neg (by omega)]
theorem Inv.floor (h : Inv np ne lc I L) {a : Nat} {x3 v : Int64} : Inv np ne lc (sI I 136 0 0) (sL (sL (sL L 2 a x3) 135 0 v) 138 a x3) := by
  refine (h.bal (K := sL (sL (sL L 2 a x3) 135 0 v) 138 a x3) (fun b hb => ?_) (fun k h1 h2 h3 h4 h5 h6 h7 => ?_)).f (fun k j hk => ?_) (fun _ _ _ _ => rfl)
  · have := h.g6 b hb
    by_cases e : b = a
    · subst e
      (simp (disch := omega) only [sI_at, sL_at, true_and, and_true, and_self, if_true, if_neg, if_pos])
      exact this.1
    · (simp (disch := omega) only [sI_at, sL_at, true_and, and_true, and_self, if_true, if_neg, if_pos])
      exact this
  · rw [sL_row h6, sL_row h4, sL_row h2]
  · rw [sI_at, if_neg (by omega)]
theorem Inv.tamper (h : Inv np ne lc I L) {a : Nat} (ha : a < 8) {x2 v : Int64} : Inv np ne lc (sI I 136 0 0) (sL (sL (sL L 1 a (L 1 a + x2)) 135 0 v) 137 a (sL (sL L 1 a (L 1 a + x2)) 135 0 v 137 a + x2)) := by
  refine (h.bal (K := sL (sL (sL L 1 a (L 1 a + x2)) 135 0 v) 137 a (sL (sL L 1 a (L 1 a + x2)) 135 0 v 137 a + x2)) (fun b hb => ?_) (fun k h1 h2 h3 h4 h5 h6 h7 => ?_)).f (fun k j hk => ?_) (fun _ _ _ _ => rfl)
  · have := h.g6 b hb
    by_cases e : b = a
    · subst e
      (simp (disch := omega) only [sI_at, sL_at, true_and, and_true, and_self, if_true, if_neg, if_pos])
      exact ⟨by rw [this.1], this.2⟩
    · (simp (disch := omega) only [sI_at, sL_at, true_and, and_true, and_self, if_true, if_neg, if_pos])
      exact this
  · rw [sL_row h5, sL_row h4, sL_row h1]
  · rw [sI_at, if_neg (by omega)]
theorem Inv.withdraw (h : Inv np ne lc I L) {q : Nat} (hq : q < 6) : Inv np ne lc (sI (sI (sI I (8 + q) 0 (-1)) 136 0 0) 150 q (-1)) L := by
  refine h.req hq (g4_w (q := q) h (by (simp (disch := omega) only [sI_at, sL_at, true_and, and_true, and_self, if_true, if_neg, if_pos])) (by (simp (disch := omega) only [sI_at, sL_at, true_and, and_true, and_self, if_true, if_neg, if_pos])) (fun q' j h1 h2 => by (simp (disch := omega) only [sI_at, sL_at, true_and, and_true, and_self, if_true, if_neg, if_pos])) (fun q' h1 h2 => rfl) (fun q' h2 => by (simp (disch := omega) only [sI_at, sL_at, true_and, and_true, and_self, if_true, if_neg, if_pos])) (fun q' h2 => by (simp (disch := omega) only [sI_at, sL_at, true_and, and_true, and_self, if_true, if_neg, if_pos])) (fun q' h2 => rfl)) (fun k j h1 h2 h3 h4 => by (simp (disch := omega) only [sI_at, sL_at, true_and, and_true, and_self, if_true, if_neg, if_pos])) (fun k h1 h2 h3 h4 h5 => rfl)
theorem b_le {n : Nat} (hn : n ≤ 40) (h0 : ¬ x < 0) (h1 : x ≤ nI n) : x.toNatClampNeg ≤ n :=
  Nat.lt_succ_iff.mp (vp_ix (vpA4 (n := n + 1) h0 h1 (by rw [nI_toInt (by omega)]; rfl))).2
theorem b_bat (h : Inv np ne lc I L) {v : Int64} (hx : vp_in x 8) (h0 : ¬ y < 0) (h1 : y ≤ nI ne) : L (54 + y.toNatClampNeg) x.toNatClampNeg = glg (sI I 136 0 0) lc (sL L 135 0 v 145) x.toNatClampNeg y.toNatClampNeg :=
  (b_glf (K := sL L 135 0 v) h (fun k hk => s_row rfl k hk) (fun c hc => sL_row (by omega)) (b_le h.ne40 h0 h1) (vp_ix hx).2).symm
theorem op_mayRun {I1 : MI} {L1 : ML} (h : Inv np ne lc I L) {r : Int32} (hc : pq_X3_mayRun np x y I L r I1 L1) : iRI I I1 ∧ ∀ (b : Int32) (I2 : MI) (L2 : ML), pq_X4_mayRun np x y I1 L1 b I2 L2 → (r = b ∧ (b = 0 ∨ b = 1)) ∧ Inv np ne lc I2 L2 := by
  have hs : ∀ k, 136 < k → (sI I 136 0 0) k = I k := fun k hk => s_row rfl k hk
  have hi : Inv np ne lc (sI I 136 0 0) L := h.f (fun k j hk => by rw [sI_at, if_neg (by omega)]) (fun _ _ _ _ => rfl)
  rcases hc with ⟨c, rfl, rfl, rfl⟩ | ⟨c, rfl, rfl, rfl⟩
  · refine ⟨fun _ _ => rfl, fun b I2 L2 hm => ?_⟩
    rcases hm with ⟨m0, m1, m2, rfl, rfl, rfl⟩ | ⟨m0, m1, m2, rfl, rfl, rfl⟩ | ⟨m0, m1, rfl, rfl, rfl⟩ | ⟨m0, rfl, rfl, rfl⟩
    · exact ⟨⟨rfl, Or.inr rfl⟩, hi⟩
    · exact absurd ((b_may h hs m0 m1).mpr c) m2
    · exact absurd c.2.1 m1
    · exact absurd c.1 m0
  · refine ⟨fun _ _ => rfl, fun b I2 L2 hm => ?_⟩
    rcases hm with ⟨m0, m1, m2, rfl, rfl, rfl⟩ | ⟨m0, m1, m2, rfl, rfl, rfl⟩ | ⟨m0, m1, rfl, rfl, rfl⟩ | ⟨m0, rfl, rfl, rfl⟩
    · exact absurd ((b_may h hs m0 m1).mp m2) c
    · exact ⟨⟨rfl, Or.inl rfl⟩, hi⟩
    · exact ⟨⟨rfl, Or.inl rfl⟩, hi⟩
    · exact ⟨⟨rfl, Or.inl rfl⟩, hi⟩
theorem op_sound {I1 : MI} {L1 : ML} (h : Inv np ne lc I L) {r : Int32} (hc : pq_X3_sound ne I L r I1 L1) : iRI I I1 ∧ ∀ (b : Int32) (I2 : MI) (L2 : ML), pq_X4_sound lc ne I1 L1 b I2 L2 → (r = b ∧ (b = 0 ∨ b = 1)) ∧ Inv np ne lc I2 L2 := by
  have hs : ∀ k, 136 < k → (sI I 136 0 0) k = I k := fun k hk => s_row rfl k hk
  have hi : Inv np ne lc (sI I 136 0 0) (gSS (sI I 136 0 0) lc L ne 8) := h.f (fun k j hk => by rw [sI_at, if_neg (by omega)]) (fun k _ _ h3 => gSS_o _ _ _ _ h3 8)
  have hb := b_snd h hs (fun _ _ => rfl : iRL L L)
  rcases hc with ⟨c, rfl, rfl, rfl⟩ | ⟨c, rfl, rfl, rfl⟩
  · refine ⟨fun _ _ => rfl, fun b I2 L2 hm => ?_⟩
    obtain ⟨rfl, rfl, rfl⟩ := hm
    have e := hb.mpr c
    exact ⟨⟨e.symm, Or.inl e⟩, hi⟩
  · refine ⟨fun _ _ => rfl, fun b I2 L2 hm => ?_⟩
    obtain ⟨rfl, rfl, rfl⟩ := hm
    have e : ¬ gz (L 137) (glf (sI I 136 0 0) lc (L 145) ne) 8 = 0 := fun z => hb.mp z c
    have e1 : gz (L 137) (glf (sI I 136 0 0) lc (L 145) ne) 8 = 1 := by
      unfold gz at e ⊢
      split
      · rfl
      · rename_i z
        rw [if_neg z] at e
        exact absurd rfl e
    exact ⟨⟨e1.symm, Or.inr e1⟩, hi⟩
theorem op_entries {I1 : MI} {L1 : ML} (h : Inv np ne lc I L) {r : Int32} (hc : pq_X3_entries ne I L r I1 L1) : iRI I I1 ∧ ∀ (b : Int32) (I2 : MI) (L2 : ML), pq_X4_entries ne I1 L1 b I2 L2 → r = b ∧ Inv np ne lc I2 L2 := by
  obtain ⟨rfl, rfl, rfl⟩ := hc
  refine ⟨fun _ _ => rfl, fun b I2 L2 hm => ?_⟩
  obtain ⟨rfl, rfl, rfl⟩ := hm
  exact ⟨rfl, h.f (fun k j hk => by rw [sI_at, if_neg (by omega)]) (fun _ _ _ _ => rfl)⟩
end BR
