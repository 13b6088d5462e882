/-! what each change leaves of the relation -/
section CH
variable {np ne : Nat} {lc : Nat → Nat} {I : MI} {L : ML}
theorem g7_f (h : Inv np ne lc I L) {J : MI} {lc' : Nat → Nat} {am : Nat → Int64} (h144 : ∀ e, e < ne → J 144 e = I 144 e) (h148 : ∀ e, e < ne → J 148 e = I 148 e) (h145 : ∀ e, e < ne → am e = L 145 e) (hp : ∀ p, p < np → ¬ I (95 + 4 * p) 3 = -1 → lc' p = lc p ∧ ∀ k, k < lc p → J 141 (4 * p + k) = I 141 (4 * p + k) ∧ J 142 (4 * p + k) = I 142 (4 * p + k)) {n a : Nat} (hn : n ≤ ne) (ha : a < 8) : L (54 + n) a = glg J lc' am a n := by
  rw [h.g7 n hn a ha]
  refine (glg_c n (fun e he => ?_)).symm
  have h5 := (h.g5 e (by have := h.ne40; omega)).1 (by omega)
  have h6 := hp _ (vp_ix h5.2.1).2 h5.2.2.1
  exact ⟨h144 e (by omega), h148 e (by omega), h145 e (by omega), h6.1, h6.2⟩
theorem gdis_1 {f : Nat → Int32} : gdis f 1 := fun j k hj hk _ => by omega
theorem gdis_c {f g : Nat → Int32} {n : Nat} (h : gdis f n) (e : ∀ k, k < n → g k = f k) : gdis g n := fun j k hj hk z => h j k hj hk (by rw [← e j hj, ← e k hk]; exact z)
/-- entries that didn't change -/
theorem g5_f (h : Inv np ne lc I L) {np' : Nat} {J : MI} {K : ML} (hn : np ≤ np') (h1 : ∀ e j, e < 40 → J (14 + e) j = I (14 + e) j) (h2 : ∀ e, e < 40 → K (14 + e) 1 = L (14 + e) 1) (h3 : ∀ c e, 143 < c → c < 150 → J c e = I c e) (h4 : ∀ e, K 145 e = L 145 e) (h5 : ∀ p, p < np → ¬ I (95 + 4 * p) 3 = -1 → ¬ J (95 + 4 * p) 3 = -1) : iG5 np' ne J K := fun e he => by
  obtain ⟨a1, a2⟩ := h.g5 e he
  refine ⟨fun z => ?_, fun z => ?_⟩
  · have b := a1 z
    simp only [h1 e _ he, h2 e he, h3 144 e (by decide) (by decide), h3 146 e (by decide) (by decide), h3 147 e (by decide) (by decide), h3 148 e (by decide) (by decide), h3 149 e (by decide) (by decide), h4]
    exact ⟨b.1, vp_mono b.2.1 hn, h5 _ (vp_ix b.2.1).2 b.2.2.1, b.2.2.2⟩
  · rw [h1 e _ he]
    exact a2 z
/-- requests that didn't change -/
theorem g4_f (h : Inv np ne lc I L) {np' : Nat} {J : MI} {K : ML} (hn : np ≤ np') (h1 : ∀ q j, q < 6 → J (8 + q) j = I (8 + q) j) (h2 : ∀ q, q < 6 → K (8 + q) 2 = L (8 + q) 2) (h3 : ∀ q, J 150 q = I 150 q) (h4 : ∀ q, J 151 q = I 151 q) (h5 : ∀ q, K 152 q = L 152 q) : iG4 np' J K := fun q hq => by
  obtain ⟨a1, a2⟩ := h.g4 q hq
  simp only [h1 q _ hq, h2 q hq, h3, h4, h5]
  exact ⟨a1, a2.imp id fun b => ⟨b.1, vp_mono b.2.1 hn, b.2.2⟩⟩
/-- lines that didn't change -/
theorem g2_p (h : Inv np ne lc I L) {J : MI} {p : Nat} (hp : p < 10) (h1 : J (95 + 4 * p) 2 = I (95 + 4 * p) 2) (h2 : J 139 p = I 139 p) (h3 : ∀ k, k < lc p → J (96 + 4 * p) k = I (96 + 4 * p) k ∧ J (97 + 4 * p) k = I (97 + 4 * p) k ∧ J 141 (4 * p + k) = I 141 (4 * p + k) ∧ J 142 (4 * p + k) = I 142 (4 * p + k)) : J (95 + 4 * p) 2 = nI (lc p) ∧ J 139 p = nI (lc p) ∧ lc p ≤ 4 ∧ (p < np → 1 ≤ lc p) ∧ (np ≤ p → lc p = 0) ∧ (∀ k, k < lc p → J (96 + 4 * p) k = J 141 (4 * p + k) ∧ J (97 + 4 * p) k = J 142 (4 * p + k) ∧ vp_in (J 141 (4 * p + k)) 8) ∧ gdis (gmA J p) (lc p) := by
  obtain ⟨a1, a2, a3, a4, a5, a6, a7⟩ := h.2.1 p hp
  refine ⟨h1.trans a1, h2.trans a2, a3, a4, a5, fun k hk => ?_, gdis_c a7 (fun k hk => (h3 k hk).2.2.1)⟩
  obtain ⟨b1, b2, b3, b4⟩ := h3 k hk
  rw [b1, b2, b3, b4]
  exact a6 k hk
set_option maxHeartbeats 1000000 in
theorem Inv.draw (h : Inv np ne lc I L) (hn : np < 10) {x1 x2 : Int32} (hx : vp_in x1 8) {v : Int64} : Inv (np + 1) ne (va_up lc np 1) (sI (sI (sI (sI (sI (sI (sI (sI (sI (sI I (96 + 4 * np) 0 x1) (97 + 4 * np) 0 x2) (95 + 4 * np) 2 ((nI 0) + 1)) 0 3 ((nI np) + 1)) 136 0 0) 136 3 ((nI np) + 1)) 139 np 1) 140 np (-1)) 141 (4 * np) x1) 142 (4 * np) x2) (sL L 135 0 v) := by
  have h40 := h.ne40
  refine ⟨?_, fun p hp => ?_, fun p hp => ?_, g4_f h (by omega) ?_ ?_ ?_ ?_ ?_, g5_f h (by omega) ?_ ?_ ?_ ?_ ?_, fun a ha => ?_, fun n hn2 a ha => ?_⟩
  · obtain ⟨a1, a2, a3, a4, a5, a6⟩ := h.1
    unfold iG1
    simp (disch := omega) only [sI_at, sL_at, true_and, and_true, and_self, if_true, if_neg, if_pos]
    exact ⟨nI_1 np, nI_1 np, hn, a4, a5, a6⟩
  · by_cases e : p = np
    · subst e
      simp (disch := omega) only [sI_at, sL_at, true_and, and_true, and_self, if_true, if_neg, if_pos]
      rw [va_up_self]
      refine ⟨rfl, rfl, by decide, fun _ => Nat.le_refl 1, fun z => absurd z (by omega), fun k hk => ?_, gdis_1⟩
      obtain rfl : k = 0 := by omega
      simp (disch := omega) only [sI_at, sL_at, true_and, and_true, and_self, if_true, if_neg, if_pos]
      exact hx
    · rw [va_up_ne _ _ e]
      have a := g2_p h hp (J := sI (sI (sI (sI (sI (sI (sI (sI (sI (sI I (96 + 4 * np) 0 x1) (97 + 4 * np) 0 x2) (95 + 4 * np) 2 ((nI 0) + 1)) 0 3 ((nI np) + 1)) 136 0 0) 136 3 ((nI np) + 1)) 139 np 1) 140 np (-1)) 141 (4 * np) x1) 142 (4 * np) x2) (by simp (disch := omega) only [sI_at, sL_at, true_and, and_true, and_self, if_true, if_neg, if_pos]) (by simp (disch := omega) only [sI_at, sL_at, true_and, and_true, and_self, if_true, if_neg, if_pos]) (fun k hk => by have := h.lc4 p hp; simp (disch := omega) only [sI_at, sL_at, true_and, and_true, and_self, if_true, if_neg, if_pos])
      exact ⟨a.1, a.2.1, a.2.2.1, fun z => a.2.2.2.1 (by omega), fun z => a.2.2.2.2.1 (by omega), a.2.2.2.2.2⟩
  · obtain ⟨a1, a2, a3, a4⟩ := h.g3 p hp
    refine ⟨fun z => ?_, fun z => ?_, ?_, fun u hu => ?_⟩
    · by_cases e : p = np
      · subst e
        simp (disch := omega) only [sI_at, sL_at, true_and, and_true, and_self, if_true, if_neg, if_pos]
        exact a2 (Nat.le_refl p)
      · simp (disch := omega) only [sI_at, sL_at, true_and, and_true, and_self, if_true, if_neg, if_pos]
        exact a1 (by omega)
    · simp (disch := omega) only [sI_at, sL_at, true_and, and_true, and_self, if_true, if_neg, if_pos]
      exact a2 (by omega)
    · simp (disch := omega) only [sI_at, sL_at, true_and, and_true, and_self, if_true, if_neg, if_pos]
      exact a3
    · simp (disch := omega) only [sI_at, sL_at, true_and, and_true, and_self, if_true, if_neg, if_pos]
      exact a4 u hu
  · intro q j hq; simp (disch := omega) only [sI_at, sL_at, true_and, and_true, and_self, if_true, if_neg, if_pos]
  · intro q hq; simp (disch := omega) only [sI_at, sL_at, true_and, and_true, and_self, if_true, if_neg, if_pos]
  · intro q; simp (disch := omega) only [sI_at, sL_at, true_and, and_true, and_self, if_true, if_neg, if_pos]
  · intro q; simp (disch := omega) only [sI_at, sL_at, true_and, and_true, and_self, if_true, if_neg, if_pos]
  · intro q; simp (disch := omega) only [sI_at, sL_at, true_and, and_true, and_self, if_true, if_neg, if_pos]
  · intro q j hq; simp (disch := omega) only [sI_at, sL_at, true_and, and_true, and_self, if_true, if_neg, if_pos]
  · intro q hq; simp (disch := omega) only [sI_at, sL_at, true_and, and_true, and_self, if_true, if_neg, if_pos]
  · intro c q h1 h2; simp (disch := omega) only [sI_at, sL_at, true_and, and_true, and_self, if_true, if_neg, if_pos]
  · intro q; simp (disch := omega) only [sI_at, sL_at, true_and, and_true, and_self, if_true, if_neg, if_pos]
  · intro p hp; simp (disch := omega) only [sI_at, sL_at, true_and, and_true, and_self, if_true, if_neg, if_pos]; exact id
  · simp (disch := omega) only [sI_at, sL_at, true_and, and_true, and_self, if_true, if_neg, if_pos]
    exact h.g6 a ha
  · rw [sL_row (a := 145) (by decide), sL_row (a := 54 + n) (by omega)]
    refine g7_f h (fun e he => ?_) (fun e he => ?_) (fun e he => rfl) (fun p hp hc => ⟨va_up_ne _ _ (by omega), fun k hk => ?_⟩) hn2 ha
    · simp (disch := omega) only [sI_at, sL_at, true_and, and_true, and_self, if_true, if_neg, if_pos]
    · simp (disch := omega) only [sI_at, sL_at, true_and, and_true, and_self, if_true, if_neg, if_pos]
    · have := h.lc4 p (by omega)
      simp (disch := omega) only [sI_at, sL_at, true_and, and_true, and_self, if_true, if_neg, if_pos]
theorem acc_ne (h : Inv np ne lc I L) {p : Nat} (hp : p < 10) {x : Int32} (hx : vp_in x 8) (hno : ¬ ∃ k, k < lc p ∧ I (96 + 4 * p) k = x) {k : Nat} (hk : k < lc p) : (I 141 (4 * p + k)).toNatClampNeg ≠ x.toNatClampNeg := fun z => by
  have h1 := h.lin hp hk
  refine hno ⟨k, hk, ?_⟩
  rw [h1.1, (vp_ix h1.2.2).1, (vp_ix hx).1, z]
set_option maxHeartbeats 2000000 in
theorem Inv.add (h : Inv np ne lc I L) {p n : Nat} (hp : p < np) (hnn : lc p = n) (hn : n < 4) (hc : I (95 + 4 * p) 3 = -1) {x2 x3 : Int32} (hx : vp_in x2 8) (hno : ¬ ∃ k, k < lc p ∧ I (96 + 4 * p) k = x2) {v : Int64} : Inv np ne (va_up lc p (n + 1)) (sI (sI (sI (sI (sI (sI (sI (sI I (96 + 4 * p) n x2) (97 + 4 * p) n x3) (95 + 4 * p) 2 (nI n + 1)) 136 0 0) 136 0 0) 141 (4 * p + n) x2) 142 (4 * p + n) x3) 139 p (nI n + 1)) (sL L 135 0 v) := by
  have h40 := h.ne40
  have h10 := h.np10
  refine ⟨?_, fun p' hp' => ?_, fun p' hp' => ?_, g4_f h (by omega) ?_ ?_ ?_ ?_ ?_, g5_f h (by omega) ?_ ?_ ?_ ?_ ?_, fun a ha => ?_, fun m hm a ha => ?_⟩
  · obtain ⟨a1, a2, a3, a4, a5, a6⟩ := h.1
    unfold iG1
    simp (disch := omega) only [sI_at, sL_at, true_and, and_true, and_self, if_true, if_neg, if_pos]
    exact ⟨a1, a2, a3, a4, a5, a6⟩
  · by_cases e : p' = p
    · subst e
      obtain ⟨a1, a2, a3, a4, a5, a6, a7⟩ := h.2.1 p' hp'
      rw [va_up_self]
      refine ⟨?_, ?_, by omega, fun _ => by omega, fun z => absurd z (by omega), fun k hk => ?_, fun j k hj hk => ?_⟩
      · simp (disch := omega) only [sI_at, sL_at, true_and, and_true, and_self, if_true, if_neg, if_pos]
        exact nI_1 n
      · simp (disch := omega) only [sI_at, sL_at, true_and, and_true, and_self, if_true, if_neg, if_pos]
        exact nI_1 n
      · by_cases ek : k = n
        · subst ek
          simp (disch := omega) only [sI_at, sL_at, true_and, and_true, and_self, if_true, if_neg, if_pos]
          exact hx
        · simp (disch := omega) only [sI_at, sL_at, true_and, and_true, and_self, if_true, if_neg, if_pos]
          exact a6 k (by omega)
      · unfold gmA
        by_cases ej : j = n
        · by_cases ek : k = n
          · intro _
            omega
          · have := acc_ne h hp' hx hno (k := k) (by omega)
            simp (disch := omega) only [sI_at, sL_at, true_and, and_true, and_self, if_true, if_neg, if_pos]
            exact fun z => absurd z.symm this
        · by_cases ek : k = n
          · have := acc_ne h hp' hx hno (k := j) (by omega)
            simp (disch := omega) only [sI_at, sL_at, true_and, and_true, and_self, if_true, if_neg, if_pos]
            exact fun z => absurd z this
          · simp (disch := omega) only [sI_at, sL_at, true_and, and_true, and_self, if_true, if_neg, if_pos]
            exact a7 j k (by omega) (by omega)
    · rw [va_up_ne _ _ e]
      exact g2_p h hp' (by simp (disch := omega) only [sI_at, sL_at, true_and, and_true, and_self, if_true, if_neg, if_pos]) (by simp (disch := omega) only [sI_at, sL_at, true_and, and_true, and_self, if_true, if_neg, if_pos]) (fun k hk => by have := h.lc4 p' hp'; simp (disch := omega) only [sI_at, sL_at, true_and, and_true, and_self, if_true, if_neg, if_pos])
  · have := h.g3 p' hp'
    refine ⟨fun z => ?_, fun z => ?_, ?_, fun u hu => ?_⟩
    · simp (disch := omega) only [sI_at, sL_at, true_and, and_true, and_self, if_true, if_neg, if_pos]
      exact this.1 z
    · simp (disch := omega) only [sI_at, sL_at, true_and, and_true, and_self, if_true, if_neg, if_pos]
      exact this.2.1 z
    · simp (disch := omega) only [sI_at, sL_at, true_and, and_true, and_self, if_true, if_neg, if_pos]
      exact this.2.2.1
    · simp (disch := omega) only [sI_at, sL_at, true_and, and_true, and_self, if_true, if_neg, if_pos]
      exact this.2.2.2 u hu
  · intro q j hq; simp (disch := omega) only [sI_at, sL_at, true_and, and_true, and_self, if_true, if_neg, if_pos]
  · intro q hq; simp (disch := omega) only [sI_at, sL_at, true_and, and_true, and_self, if_true, if_neg, if_pos]
  · intro q; simp (disch := omega) only [sI_at, sL_at, true_and, and_true, and_self, if_true, if_neg, if_pos]
  · intro q; simp (disch := omega) only [sI_at, sL_at, true_and, and_true, and_self, if_true, if_neg, if_pos]
  · intro q; simp (disch := omega) only [sI_at, sL_at, true_and, and_true, and_self, if_true, if_neg, if_pos]
  · intro q j hq; simp (disch := omega) only [sI_at, sL_at, true_and, and_true, and_self, if_true, if_neg, if_pos]
  · intro q hq; simp (disch := omega) only [sI_at, sL_at, true_and, and_true, and_self, if_true, if_neg, if_pos]
  · intro c q h1 h2; simp (disch := omega) only [sI_at, sL_at, true_and, and_true, and_self, if_true, if_neg, if_pos]
  · intro q; simp (disch := omega) only [sI_at, sL_at, true_and, and_true, and_self, if_true, if_neg, if_pos]
  · intro p hp; simp (disch := omega) only [sI_at, sL_at, true_and, and_true, and_self, if_true, if_neg, if_pos]; exact id
  · simp (disch := omega) only [sI_at, sL_at, true_and, and_true, and_self, if_true, if_neg, if_pos]
    exact h.g6 a ha
  · rw [sL_row (a := 145) (by decide), sL_row (a := 54 + m) (by omega)]
    refine g7_f h (fun e he => ?_) (fun e he => ?_) (fun e he => rfl) (fun p' hp' hc' => ?_) hm ha
    · simp (disch := omega) only [sI_at, sL_at, true_and, and_true, and_self, if_true, if_neg, if_pos]
    · simp (disch := omega) only [sI_at, sL_at, true_and, and_true, and_self, if_true, if_neg, if_pos]
    · have hpp : p' ≠ p := fun z => hc' (by rw [z]; exact hc)
      refine ⟨va_up_ne _ _ hpp, fun k hk => ?_⟩
      have := h.lc4 p' (by omega)
      simp (disch := omega) only [sI_at, sL_at, true_and, and_true, and_self, if_true, if_neg, if_pos]
set_option maxHeartbeats 2000000 in
theorem Inv.certify (h : Inv np ne lc I L) {p : Nat} (hp : p < np) {x1 : Int32} (hx : vp_in x1 8) : Inv np ne lc (sI (sI (sI (sI I (95 + 4 * p) 3 x1) 136 0 0) 136 0 0) 140 p x1) L := by
  have h40 := h.ne40
  have h10 := h.np10
  refine ⟨?_, fun p' hp' => ?_, fun p' hp' => ?_, g4_f h (by omega) ?_ ?_ ?_ ?_ ?_, g5_f h (by omega) ?_ ?_ ?_ ?_ ?_, h.g6, fun m hm a ha => ?_⟩
  · obtain ⟨a1, a2, a3, a4, a5, a6⟩ := h.1
    unfold iG1
    simp (disch := omega) only [sI_at, sL_at, true_and, and_true, and_self, if_true, if_neg, if_pos]
    exact ⟨a1, a2, a3, a4, a5, a6⟩
  · exact g2_p h hp' (by simp (disch := omega) only [sI_at, sL_at, true_and, and_true, and_self, if_true, if_neg, if_pos]) (by simp (disch := omega) only [sI_at, sL_at, true_and, and_true, and_self, if_true, if_neg, if_pos]) (fun k hk => by have := h.lc4 p' hp'; simp (disch := omega) only [sI_at, sL_at, true_and, and_true, and_self, if_true, if_neg, if_pos])
  · have := h.g3 p' hp'
    by_cases e : p' = p
    · subst e
      refine ⟨fun z => ?_, fun z => absurd z (by omega), ?_, fun u hu => ?_⟩
      · simp (disch := omega) only [sI_at, sL_at, true_and, and_true, and_self, if_true, if_neg, if_pos]
      · simp (disch := omega) only [sI_at, sL_at, true_and, and_true, and_self, if_true, if_neg, if_pos]
        exact Or.inr hx
      · simp (disch := omega) only [sI_at, sL_at, true_and, and_true, and_self, if_true, if_neg, if_pos]
        exact this.2.2.2 u hu
    · refine ⟨fun z => ?_, fun z => ?_, ?_, fun u hu => ?_⟩
      · simp (disch := omega) only [sI_at, sL_at, true_and, and_true, and_self, if_true, if_neg, if_pos]
        exact this.1 z
      · simp (disch := omega) only [sI_at, sL_at, true_and, and_true, and_self, if_true, if_neg, if_pos]
        exact this.2.1 z
      · simp (disch := omega) only [sI_at, sL_at, true_and, and_true, and_self, if_true, if_neg, if_pos]
        exact this.2.2.1
      · simp (disch := omega) only [sI_at, sL_at, true_and, and_true, and_self, if_true, if_neg, if_pos]
        exact this.2.2.2 u hu
  · intro q j hq; simp (disch := omega) only [sI_at, sL_at, true_and, and_true, and_self, if_true, if_neg, if_pos]
  · intro q hq; rfl
  · intro q; simp (disch := omega) only [sI_at, sL_at, true_and, and_true, and_self, if_true, if_neg, if_pos]
  · intro q; simp (disch := omega) only [sI_at, sL_at, true_and, and_true, and_self, if_true, if_neg, if_pos]
  · intro q; rfl
  · intro q j hq; simp (disch := omega) only [sI_at, sL_at, true_and, and_true, and_self, if_true, if_neg, if_pos]
  · intro q hq; rfl
  · intro c q h1 h2; simp (disch := omega) only [sI_at, sL_at, true_and, and_true, and_self, if_true, if_neg, if_pos]
  · intro q; rfl
  · intro p' hp'
    by_cases e : p' = p
    · subst e
      simp (disch := omega) only [sI_at, sL_at, true_and, and_true, and_self, if_true, if_neg, if_pos]
      exact fun _ => vp_n1 hx
    · simp (disch := omega) only [sI_at, sL_at, true_and, and_true, and_self, if_true, if_neg, if_pos]
      exact id
  · refine g7_f h (fun e he => ?_) (fun e he => ?_) (fun e he => rfl) (fun p' hp' hc' => ⟨rfl, fun k hk => ?_⟩) hm ha
    · simp (disch := omega) only [sI_at, sL_at, true_and, and_true, and_self, if_true, if_neg, if_pos]
    · simp (disch := omega) only [sI_at, sL_at, true_and, and_true, and_self, if_true, if_neg, if_pos]
    · simp (disch := omega) only [sI_at, sL_at, true_and, and_true, and_self, if_true, if_neg, if_pos]
set_option maxHeartbeats 2000000 in
theorem Inv.grant (h : Inv np ne lc I L) {p u : Nat} (hp : p < np) (hu : u < 8) {x4 : Int32} {v : Int64} : Inv np ne lc (sI (sI (sI I (98 + 4 * p) u x4) 136 0 0) 143 (8 * p + u) x4) (sL L 135 0 v) := by
  have h40 := h.ne40
  have h10 := h.np10
  refine ⟨?_, fun p' hp' => ?_, fun p' hp' => ?_, g4_f h (by omega) ?_ ?_ ?_ ?_ ?_, g5_f h (by omega) ?_ ?_ ?_ ?_ ?_, fun a ha => ?_, fun m hm a ha => ?_⟩
  · obtain ⟨a1, a2, a3, a4, a5, a6⟩ := h.1
    unfold iG1
    simp (disch := omega) only [sI_at, sL_at, true_and, and_true, and_self, if_true, if_neg, if_pos]
    exact ⟨a1, a2, a3, a4, a5, a6⟩
  · exact g2_p h hp' (by simp (disch := omega) only [sI_at, sL_at, true_and, and_true, and_self, if_true, if_neg, if_pos]) (by simp (disch := omega) only [sI_at, sL_at, true_and, and_true, and_self, if_true, if_neg, if_pos]) (fun k hk => by have := h.lc4 p' hp'; simp (disch := omega) only [sI_at, sL_at, true_and, and_true, and_self, if_true, if_neg, if_pos])
  · have := h.g3 p' hp'
    refine ⟨fun z => ?_, fun z => ?_, ?_, fun u' hu' => ?_⟩
    · simp (disch := omega) only [sI_at, sL_at, true_and, and_true, and_self, if_true, if_neg, if_pos]
      exact this.1 z
    · simp (disch := omega) only [sI_at, sL_at, true_and, and_true, and_self, if_true, if_neg, if_pos]
      exact this.2.1 z
    · simp (disch := omega) only [sI_at, sL_at, true_and, and_true, and_self, if_true, if_neg, if_pos]
      exact this.2.2.1
    · by_cases e : p' = p ∧ u' = u
      · obtain ⟨rfl, rfl⟩ := e
        simp (disch := omega) only [sI_at, sL_at, true_and, and_true, and_self, if_true, if_neg, if_pos]
      · simp (disch := omega) only [sI_at, sL_at, true_and, and_true, and_self, if_true, if_neg, if_pos]
        exact this.2.2.2 u' hu'
  · intro q j hq; simp (disch := omega) only [sI_at, sL_at, true_and, and_true, and_self, if_true, if_neg, if_pos]
  · intro q hq; simp (disch := omega) only [sI_at, sL_at, true_and, and_true, and_self, if_true, if_neg, if_pos]
  · intro q; simp (disch := omega) only [sI_at, sL_at, true_and, and_true, and_self, if_true, if_neg, if_pos]
  · intro q; simp (disch := omega) only [sI_at, sL_at, true_and, and_true, and_self, if_true, if_neg, if_pos]
  · intro q; simp (disch := omega) only [sI_at, sL_at, true_and, and_true, and_self, if_true, if_neg, if_pos]
  · intro q j hq; simp (disch := omega) only [sI_at, sL_at, true_and, and_true, and_self, if_true, if_neg, if_pos]
  · intro q hq; simp (disch := omega) only [sI_at, sL_at, true_and, and_true, and_self, if_true, if_neg, if_pos]
  · intro c q h1 h2; simp (disch := omega) only [sI_at, sL_at, true_and, and_true, and_self, if_true, if_neg, if_pos]
  · intro q; simp (disch := omega) only [sI_at, sL_at, true_and, and_true, and_self, if_true, if_neg, if_pos]
  · intro p' hp'; simp (disch := omega) only [sI_at, sL_at, true_and, and_true, and_self, if_true, if_neg, if_pos]; exact id
  · simp (disch := omega) only [sI_at, sL_at, true_and, and_true, and_self, if_true, if_neg, if_pos]
    exact h.g6 a ha
  · rw [sL_row (a := 145) (by decide), sL_row (a := 54 + m) (by omega)]
    refine g7_f h (fun e he => ?_) (fun e he => ?_) (fun e he => rfl) (fun p' hp' hc' => ⟨rfl, fun k hk => ?_⟩) hm ha
    · simp (disch := omega) only [sI_at, sL_at, true_and, and_true, and_self, if_true, if_neg, if_pos]
    · simp (disch := omega) only [sI_at, sL_at, true_and, and_true, and_self, if_true, if_neg, if_pos]
    · simp (disch := omega) only [sI_at, sL_at, true_and, and_true, and_self, if_true, if_neg, if_pos]
/-- balances and floors, changed alike on both sides -/
theorem Inv.bal (h : Inv np ne lc I L) {K : ML} (h6 : ∀ a, a < 8 → K 1 a = K 137 a ∧ K 2 a = K 138 a) (hL : ∀ k, k ≠ 1 → k ≠ 2 → k ≠ 7 → k ≠ 135 → k ≠ 137 → k ≠ 138 → k ≠ 153 → K k = L k) : Inv np ne lc I K := by
  have h40 := h.ne40
  refine ⟨h.1, h.2.1, h.g3, g4_f h (Nat.le_refl _) (fun _ _ _ => rfl) (fun q hq => ?_) (fun _ => rfl) (fun _ => rfl) (fun q => ?_), g5_f h (Nat.le_refl _) (fun _ _ _ => rfl) (fun e he => ?_) (fun _ _ _ _ => rfl) (fun e => ?_) (fun _ _ => id), h6, fun n hn a ha => ?_⟩
  · rw [hL (8 + q) (by omega) (by omega) (by omega) (by omega) (by omega) (by omega) (by omega)]
  · rw [hL 152 (by decide) (by decide) (by decide) (by decide) (by decide) (by decide) (by decide)]
  · rw [hL (14 + e) (by omega) (by omega) (by omega) (by omega) (by omega) (by omega) (by omega)]
  · rw [hL 145 (by decide) (by decide) (by decide) (by decide) (by decide) (by decide) (by decide)]
  · rw [hL (54 + n) (by omega) (by omega) (by omega) (by omega) (by omega) (by omega) (by omega), hL 145 (by decide) (by decide) (by decide) (by decide) (by decide) (by decide) (by decide)]
    exact h.g7 n hn a ha
theorem g4_w (h : Inv np ne lc I L) {J : MI} {K : ML} {q : Nat} (h0 : J (8 + q) 0 = -1) (h9 : J 150 q = -1) (h1 : ∀ q' j, q' < 6 → q' ≠ q → J (8 + q') j = I (8 + q') j) (h2 : ∀ q', q' < 6 → q' ≠ q → K (8 + q') 2 = L (8 + q') 2) (h3 : ∀ q', q' ≠ q → J 150 q' = I 150 q') (h4 : ∀ q', q' ≠ q → J 151 q' = I 151 q') (h5 : ∀ q', q' ≠ q → K 152 q' = L 152 q') : iG4 np J K := fun q' hq' => by
  by_cases e : q' = q
  · subst e
    rw [h0, h9]
    exact ⟨rfl, Or.inl rfl⟩
  · rw [h1 q' _ hq' e, h1 q' _ hq' e, h2 q' hq' e, h3 q' e, h4 q' e, h5 q' e]
    exact h.g4 q' hq'
theorem g4_r (h : Inv np ne lc I L) {J : MI} {K : ML} {q : Nat} {x1 x2 : Int32} (hx1 : vp_in x1 8) (hx2 : vp_in x2 np) (h0 : J (8 + q) 0 = x1) (h9 : J 150 q = x1) (h8 : J (8 + q) 1 = x2) (h7 : J 151 q = x2) (h6 : K (8 + q) 2 = K 152 q) (h1 : ∀ q' j, q' < 6 → q' ≠ q → J (8 + q') j = I (8 + q') j) (h2 : ∀ q', q' < 6 → q' ≠ q → K (8 + q') 2 = L (8 + q') 2) (h3 : ∀ q', q' ≠ q → J 150 q' = I 150 q') (h4 : ∀ q', q' ≠ q → J 151 q' = I 151 q') (h5 : ∀ q', q' ≠ q → K 152 q' = L 152 q') : iG4 np J K := fun q' hq' => by
  by_cases e : q' = q
  · subst e
    rw [h0, h9, h8, h7, h6]
    exact ⟨rfl, Or.inr ⟨hx1, hx2, rfl, rfl⟩⟩
  · rw [h1 q' _ hq' e, h1 q' _ hq' e, h2 q' hq' e, h3 q' e, h4 q' e, h5 q' e]
    exact h.g4 q' hq'
/-- requests alone changed -/
theorem Inv.req (h : Inv np ne lc I L) {J : MI} {K : ML} {q : Nat} (hq : q < 6) (h4 : iG4 np J K) (hI : ∀ k j, (k ≠ 136 ∨ j ≠ 0) → k ≠ 8 + q → k ≠ 150 → k ≠ 151 → J k j = I k j) (hL : ∀ k, k ≠ 7 → k ≠ 135 → k ≠ 153 → k ≠ 8 + q → k ≠ 152 → K k = L k) : Inv np ne lc J K := by
  have h40 := h.ne40
  refine ⟨?_, fun p hp => g2_p h hp ?_ ?_ (fun k hk => ⟨?_, ?_, ?_, ?_⟩), fun p hp => ?_, h4, g5_f h (Nat.le_refl _) (fun e j he => ?_) (fun e he => ?_) (fun c e h1 h2 => ?_) (fun e => ?_) (fun p hp => ?_), fun a ha => ?_, fun n hn a ha => ?_⟩
  · obtain ⟨a1, a2, a3, a4, a5, a6⟩ := h.1
    unfold iG1
    rw [hI 0 3 (by omega) (by omega) (by omega) (by omega), hI 136 3 (by omega) (by omega) (by omega) (by omega), hI 0 6 (by omega) (by omega) (by omega) (by omega), hI 136 9 (by omega) (by omega) (by omega) (by omega)]
    exact ⟨a1, a2, a3, a4, a5, a6⟩
  · exact hI _ _ (by omega) (by omega) (by omega) (by omega)
  · exact hI _ _ (by omega) (by omega) (by omega) (by omega)
  · exact hI _ _ (by omega) (by omega) (by omega) (by omega)
  · exact hI _ _ (by omega) (by omega) (by omega) (by omega)
  · exact hI _ _ (by omega) (by omega) (by omega) (by omega)
  · exact hI _ _ (by omega) (by omega) (by omega) (by omega)
  · have := h.g3 p hp
    refine ⟨fun z => ?_, fun z => ?_, ?_, fun u hu => ?_⟩
    · rw [hI (95 + 4 * p) 3 (by omega) (by omega) (by omega) (by omega), hI 140 p (by omega) (by omega) (by omega) (by omega)]
      exact this.1 z
    · rw [hI (95 + 4 * p) 3 (by omega) (by omega) (by omega) (by omega)]
      exact this.2.1 z
    · rw [hI (95 + 4 * p) 3 (by omega) (by omega) (by omega) (by omega)]
      exact this.2.2.1
    · rw [hI (98 + 4 * p) u (by omega) (by omega) (by omega) (by omega), hI 143 _ (by omega) (by omega) (by omega) (by omega)]
      exact this.2.2.2 u hu
  · exact hI _ _ (by omega) (by omega) (by omega) (by omega)
  · rw [hL _ (by omega) (by omega) (by omega) (by omega) (by omega)]
  · exact hI _ _ (by omega) (by omega) (by omega) (by omega)
  · rw [hL _ (by omega) (by omega) (by omega) (by omega) (by omega)]
  · have := h.np10
    rw [hI (95 + 4 * p) 3 (by omega) (by omega) (by omega) (by omega)]
    exact id
  · rw [hL 1 (by omega) (by omega) (by omega) (by omega) (by omega), hL 2 (by omega) (by omega) (by omega) (by omega) (by omega), hL 137 (by omega) (by omega) (by omega) (by omega) (by omega), hL 138 (by omega) (by omega) (by omega) (by omega) (by omega)]
    exact h.g6 a ha
  · rw [hL (54 + n) (by omega) (by omega) (by omega) (by omega) (by omega)]
    refine g7_f h (fun e he => hI _ _ (by omega) (by omega) (by omega) (by omega)) (fun e he => hI _ _ (by omega) (by omega) (by omega) (by omega)) (fun e he => by rw [hL 145 (by omega) (by omega) (by omega) (by omega) (by omega)]) (fun p' hp' hc' => ⟨rfl, fun k hk => ⟨hI _ _ (by omega) (by omega) (by omega) (by omega), hI _ _ (by omega) (by omega) (by omega) (by omega)⟩⟩) hn ha
/-- one entry more -/
theorem Inv.ent (h : Inv np ne lc I L) {J : MI} {K : ML} (hne : ne < 40) {x z : Int32} (hx : vp_in x np) (hcx : ¬ I (95 + 4 * x.toNatClampNeg) 3 = -1) (hz : z = -1 ∨ vp_in z 40) (h4 : iG4 np J K)
    (e06 : J 0 6 = nI ne + 1) (e19 : J 136 9 = nI ne + 1) (e0 : J (14 + ne) 0 = x) (e144 : J 144 ne = x) (e2 : J (14 + ne) 2 = J 146 ne) (e3 : J (14 + ne) 3 = J 147 ne) (e4 : J (14 + ne) 4 = z) (e148 : J 148 ne = z)
    (h149 : ∀ e, e < 40 → (e ≤ ne → J (14 + e) 5 = J 149 e ∧ (J 149 e = -1 ∨ vp_in (J 149 e) 40)) ∧ (ne < e → J (14 + e) 5 = -1))
    (i1 : J 0 3 = I 0 3) (i2 : J 136 3 = I 136 3) (i3 : ∀ k j, 95 ≤ k → k < 135 → J k j = I k j) (i4 : ∀ k j, 138 < k → k < 144 → J k j = I k j) (i5 : ∀ e j, e < ne → j < 5 → J (14 + e) j = I (14 + e) j) (i6 : ∀ c e, 143 < c → c < 149 → e < ne → J c e = I c e)
    (l1 : K (14 + ne) 1 = K 145 ne) (l2 : ∀ e, e < ne → K (14 + e) 1 = L (14 + e) 1 ∧ K 145 e = L 145 e) (l3 : ∀ a, K 2 a = L 2 a ∧ K 138 a = L 138 a) (l4 : ∀ n, n ≤ ne → ∀ a, a < 8 → K (54 + n) a = L (54 + n) a)
    {po : Nat → Int64} (hpo : ∀ k, k < lc x.toNatClampNeg → po k = if z < 0 then gpo (K 145 ne) (I (97 + 4 * x.toNatClampNeg)) (lc x.toNatClampNeg) k else -(gpo (K 145 ne) (I (97 + 4 * x.toNatClampNeg)) (lc x.toNatClampNeg) k))
    (p1 : ∀ a, a < 8 → K 1 a = L 1 a + gdl (I (96 + 4 * x.toNatClampNeg)) po a (lc x.toNatClampNeg)) (p2 : ∀ a, a < 8 → K 137 a = L 137 a + gdl (I (96 + 4 * x.toNatClampNeg)) po a (lc x.toNatClampNeg)) (p3 : ∀ a, a < 8 → K (54 + (ne + 1)) a = L (54 + ne) a + gdl (I (96 + 4 * x.toNatClampNeg)) po a (lc x.toNatClampNeg)) : Inv np (ne + 1) lc J K := by
  have h10 := h.np10
  have hx2 := (vp_ix hx).2
  refine ⟨?_, fun p hp => g2_p h hp (i3 _ _ (by omega) (by omega)) (i4 _ _ (by omega) (by omega)) (fun k hk => ⟨i3 _ _ (by omega) (by omega), i3 _ _ (by omega) (by omega), i4 _ _ (by omega) (by omega), i4 _ _ (by omega) (by omega)⟩), fun p hp => ?_, h4, fun e he => ?_, fun a ha => ?_, ?_⟩
  · obtain ⟨a1, a2, a3, a4, a5, a6⟩ := h.1
    exact ⟨i1.trans a1, i2.trans a2, a3, e06.trans (nI_1 ne), e19.trans (nI_1 ne), by omega⟩
  · have := h.g3 p hp
    refine ⟨fun z => ?_, fun z => ?_, ?_, fun u hu => ?_⟩
    · rw [i3 _ _ (by omega) (by omega), i4 _ _ (by omega) (by omega)]
      exact this.1 z
    · rw [i3 _ _ (by omega) (by omega)]
      exact this.2.1 z
    · rw [i3 _ _ (by omega) (by omega)]
      exact this.2.2.1
    · rw [i3 _ _ (by omega) (by omega), i4 _ _ (by omega) (by omega)]
      exact this.2.2.2 u hu
  · refine ⟨fun h1 => ?_, fun h1 => (h149 e he).2 (by omega)⟩
    by_cases ee : e = ne
    · subst ee
      have h9 := (h149 e he).1 (Nat.le_refl e)
      rw [e0, e144, e4, e148, i3 _ _ (by omega) (by omega)]
      exact ⟨rfl, hx, hcx, l1, e2, e3, rfl, hz, h9.1, h9.2⟩
    · have h9 := (h149 e he).1 (by omega)
      have b := (h.g5 e he).1 (by omega)
      have b2 := (vp_ix b.2.1).2
      rw [i5 e 0 (by omega) (by omega), i6 144 e (by omega) (by omega) (by omega), i3 _ _ (by omega) (by omega), (l2 e (by omega)).1, (l2 e (by omega)).2, i5 e 2 (by omega) (by omega), i6 146 e (by omega) (by omega) (by omega), i5 e 3 (by omega) (by omega), i6 147 e (by omega) (by omega) (by omega), i5 e 4 (by omega) (by omega), i6 148 e (by omega) (by omega) (by omega)]
      exact ⟨b.1, b.2.1, b.2.2.1, b.2.2.2.1, b.2.2.2.2.1, b.2.2.2.2.2.1, b.2.2.2.2.2.2.1, b.2.2.2.2.2.2.2.1, h9.1, h9.2⟩
  · rw [p1 a ha, p2 a ha, (l3 a).1, (l3 a).2, (h.g6 a ha).1]
    exact ⟨rfl, (h.g6 a ha).2⟩
  · have hold : ∀ n, n ≤ ne → ∀ a, a < 8 → L (54 + n) a = glg J lc (K 145) a n := fun n hn a ha => g7_f h (fun e he => i6 144 e (by omega) (by omega) he) (fun e he => i6 148 e (by omega) (by omega) he) (fun e he => (l2 e he).2) (fun p hp _ => ⟨rfl, fun k hk => ⟨i4 _ _ (by omega) (by omega), i4 _ _ (by omega) (by omega)⟩⟩) hn ha
    intro n hn a ha
    by_cases en : n = ne + 1
    · subst en
      show _ = glg J lc (K 145) a ne + gdl (gmA J (J 144 ne).toNatClampNeg) (gep J lc (K 145) ne) a (lc (J 144 ne).toNatClampNeg)
      rw [p3 a ha, hold ne (Nat.le_refl _) a ha, e144]
      congr 1
      refine gdl_c _ (fun k hk => ⟨?_, ?_⟩)
      · unfold gmA
        rw [i4 _ _ (by omega) (by omega)]
        exact (h.lin (by omega) hk).1
      · rw [hpo k hk]
        unfold gep
        rw [e144, e148]
        have hs : ∀ j, j < lc x.toNatClampNeg → I (97 + 4 * x.toNatClampNeg) j = gmS J x.toNatClampNeg j := fun j hj => by
          unfold gmS
          rw [i4 _ _ (by omega) (by omega)]
          exact (h.lin (by omega) hj).2.1
        rw [gpo_c hs hk]
    · rw [l4 n (by omega) a ha]
      exact hold n (by omega) a ha
end CH
