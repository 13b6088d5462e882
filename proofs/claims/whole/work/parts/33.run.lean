/-! a run that is logged, on both sides; a request filed -/
section RU
variable {np ne : Nat} {lc : Nat → Nat} {I J : MI} {L K : ML} {x y : Int32}
theorem Inv.run (h : Inv np ne lc I L) (hne : ne < 40) {x z : Int32} {amt s v : Int64} (hx : vp_in x np) (hcx : ¬ I (95 + 4 * x.toNatClampNeg) 3 = -1) (hz : z = -1 ∨ vp_in z 40) (hs : (s = 1 ∧ z = -1) ∨ (s = -1 ∧ ¬ z = -1)) {J1 : MI} {L1 : ML} (hJ1 : ∀ k, 136 < k → J1 k = I k)
    (eL : sL (sL (gRL (gcp (gPW L amt (I (97 + 4 * x.toNatClampNeg)) (lc x.toNatClampNeg) z) ne) (I (96 + 4 * x.toNatClampNeg)) (54 + (ne + 1)) (lc x.toNatClampNeg)) (14 + ne) 1 amt) 135 0 v = L1)
    (hK : K = sL (gRM (va_up (gSS J1 lc L1 ne 8) 153 (gpw amt (gmS J1 x.toNatClampNeg) (lc x.toNatClampNeg) ((gSS J1 lc L1 ne 8) 153))) (gmA J1 x.toNatClampNeg) (fun k => s * gpw amt (gmS J1 x.toNatClampNeg) (lc x.toNatClampNeg) ((gSS J1 lc L1 ne 8) 153) k) (lc x.toNatClampNeg)) 145 ne amt)
    (h4 : (∀ c, c ≠ 1 → c ≠ 7 → c ≠ 54 + (ne + 1) → c ≠ 14 + ne → c ≠ 135 → c ≠ 137 → c ≠ 145 → c ≠ 153 → K c = L c) → iG4 np J K)
    (e06 : J 0 6 = nI ne + 1) (e19 : J 136 9 = nI ne + 1) (e0 : J (14 + ne) 0 = x) (e144 : J 144 ne = x) (e2 : J (14 + ne) 2 = J 146 ne) (e3 : J (14 + ne) 3 = J 147 ne) (e4 : J (14 + ne) 4 = z) (e148 : J 148 ne = z)
    (h149 : ∀ e, e < 40 → (e ≤ ne → J (14 + e) 5 = J 149 e ∧ (J 149 e = -1 ∨ vp_in (J 149 e) 40)) ∧ (ne < e → J (14 + e) 5 = -1))
    (i1 : J 0 3 = I 0 3) (i2 : J 136 3 = I 136 3) (i3 : ∀ k j, 95 ≤ k → k < 135 → J k j = I k j) (i4 : ∀ k j, 138 < k → k < 144 → J k j = I k j) (i5 : ∀ e j, e < ne → j < 5 → J (14 + e) j = I (14 + e) j) (i6 : ∀ c e, 143 < c → c < 149 → e < ne → J c e = I c e) : Inv np (ne + 1) lc J K ∧ K 135 0 = v := by
  have hx2 := (vp_ix hx).2
  have h10 := h.np10
  have r : ∀ c, c ≠ 137 → c ≠ 145 → c ≠ 153 → K c = L1 c := fun c h1 h2 h3 => by rw [hK, sL_row h2, gRM_o h1, va_up_ne _ _ h3, gSS_o _ _ _ _ h3 8]
  have q : ∀ c, c ≠ 1 → c ≠ 7 → c ≠ 54 + (ne + 1) → c ≠ 14 + ne → c ≠ 135 → L1 c = L c := fun c h1 h2 h3 h5 h6 => by rw [← eL, sL_row h6, sL_row h5, gRL_o h3 h1, gcp_o h3, gPW_0 h2]
  have k145 : K 145 ne = amt := by rw [hK, sL_eq]
  refine ⟨h.ent (po := gPW L amt (I (97 + 4 * x.toNatClampNeg)) (lc x.toNatClampNeg) z 7) hne hx hcx hz (h4 fun c a1 a2 a3 a5 a6 a7 a8 a9 => (r c a7 a8 a9).trans (q c a1 a2 a3 a5 a6)) e06 e19 e0 e144 e2 e3 e4 e148 h149 i1 i2 i3 i4 i5 i6 ?_ ?_ ?_ ?_ ?_ ?_ ?_ ?_, ?_⟩
  · rw [k145, r (14 + ne) (by omega) (by omega) (by omega), ← eL, sL_row (by omega), sL_eq]
  · intro e he
    refine ⟨by rw [r (14 + e) (by omega) (by omega) (by omega), q (14 + e) (by omega) (by omega) (by omega) (by omega) (by omega)], ?_⟩
    rw [hK, sL_ne (by omega), gRM_o (by decide), va_up_ne _ _ (by decide), gSS_o _ _ _ _ (by decide) 8, q 145 (by omega) (by omega) (by omega) (by omega) (by omega)]
  · intro a
    rw [r 2 (by omega) (by omega) (by omega), q 2 (by omega) (by omega) (by omega) (by omega) (by omega), r 138 (by omega) (by omega) (by omega), q 138 (by omega) (by omega) (by omega) (by omega) (by omega)]
    exact ⟨rfl, rfl⟩
  · intro n hn a ha
    rw [r (54 + n) (by omega) (by omega) (by omega), q (54 + n) (by omega) (by omega) (by omega) (by omega) (by omega)]
  · intro k hk
    rw [k145, gPW_7 hk (h.lc4 _ (by omega))]
    simp only [neg_1 hz]
  · intro a ha
    rw [r 1 (by omega) (by omega) (by omega), ← eL, sL_row (by omega), sL_row (by omega)]
    unfold gRL
    rw [va_up_ne _ _ (by omega), va_up_self]
    show gcp _ ne 1 a + gdl _ (gcp _ ne 7) a _ = _
    rw [gcp_o (by omega), gcp_o (by omega), gPW_0 (by decide)]
  · intro a ha
    rw [hK, sL_row (by omega)]
    unfold gRM
    rw [va_up_self]
    show (va_up (gSS J1 lc L1 ne 8) 153 _ : ML) 137 a + gdl _ _ a _ = _
    rw [va_up_ne _ _ (by decide), gSS_o _ _ _ _ (by decide) 8, q 137 (by omega) (by omega) (by omega) (by omega) (by omega)]
    congr 1
    refine gdl_c _ (fun k hk => ⟨?_, b_po h hJ1 (by omega) hs hk⟩)
    unfold gmA
    rw [hJ1 141 (by decide)]
    exact (h.lin (by omega) hk).1.symm
  · intro a ha
    rw [r (54 + (ne + 1)) (by omega) (by omega) (by omega), ← eL, sL_row (by omega), sL_row (by omega)]
    unfold gRL
    rw [va_up_self]
    show gcp _ ne (54 + (ne + 1)) a + gdl _ (gcp _ ne 7) a _ = _
    rw [gcp_o (c := 7) (by omega)]
    unfold gcp
    rw [va_up_self]
    show (if a < 8 then _ else _) + _ = _
    rw [if_pos ha, gPW_0 (by omega)]
  · rw [r 135 (by omega) (by omega) (by omega), ← eL, sL_eq]
theorem gfq_le (f : Nat → Int32) : gfq f ≤ 6 := by
  unfold gfq
  repeat' split
  all_goals omega
theorem b_100 {n : Nat} (hn : n < 6) : (0 : Int32) ≤ 100 + nI n := by
  have e : (100 : Int32) + nI n = nI (100 + n) := nI_add 100 n
  rw [e]
  exact nI_pos' (by omega)
theorem iO_e (_ : Inv np ne lc I L) {k : Int32} {v w : Int64} {n' e' : Nat} {lc' : Nat → Nat} (hr : Inv n' e' lc' J K ∧ K 135 0 = v) (h0 : J 136 0 = k) (hw : v = w := by rfl) : iO k (K 135 0 = w) J K := ⟨h0, fun _ => hr.2.trans hw, n', e', lc', hr.1⟩
theorem iO_q {k : Int32} {v : Int64} (h0 : J 136 0 = k) (hv : K 135 0 = v) (hi : ∃ (np ne : Nat) (lc : Nat → Nat), Inv np ne lc J K) : iO k (K 135 0 = v) J K := ⟨h0, fun _ => hv, hi⟩
/-- what reverses what: as it was, and -1 at the new entry -/
theorem h149_k (h : Inv np ne lc I L) (hne : ne < 40) (h1 : ∀ e, e < 40 → J (14 + e) 5 = I (14 + e) 5) (h2 : ∀ e, e ≠ ne → J 149 e = I 149 e) (h3 : J 149 ne = -1) : ∀ e, e < 40 → (e ≤ ne → J (14 + e) 5 = J 149 e ∧ (J 149 e = -1 ∨ vp_in (J 149 e) 40)) ∧ (ne < e → J (14 + e) 5 = -1) := fun e he => by
  obtain ⟨a1, a2⟩ := h.g5 e he
  refine ⟨fun z => ?_, fun z => ?_⟩
  · by_cases ee : e = ne
    · subst ee
      rw [h1 e he, h3, a2 (Nat.le_refl e)]
      exact ⟨rfl, Or.inl rfl⟩
    · have b := a1 (by omega)
      rw [h1 e he, h2 e ee]
      exact b.2.2.2.2.2.2.2.2
  · rw [h1 e he]
    exact a2 (by omega)
/-- .. and an entry that the new one reverses -/
theorem h149_r (h : Inv np ne lc I L) (hne : ne < 40) {e0 : Nat} (he0 : e0 < ne) (h1 : ∀ e, e < 40 → e ≠ e0 → J (14 + e) 5 = I (14 + e) 5) (h5 : J (14 + e0) 5 = nI ne) (h2 : ∀ e, e ≠ ne → e ≠ e0 → J 149 e = I 149 e) (h3 : J 149 ne = -1) (h4 : J 149 e0 = nI ne) : ∀ e, e < 40 → (e ≤ ne → J (14 + e) 5 = J 149 e ∧ (J 149 e = -1 ∨ vp_in (J 149 e) 40)) ∧ (ne < e → J (14 + e) 5 = -1) := fun e he => by
  obtain ⟨a1, a2⟩ := h.g5 e he
  refine ⟨fun z => ?_, fun z => ?_⟩
  · by_cases e9 : e = e0
    · subst e9
      rw [h5, h4]
      exact ⟨rfl, Or.inr ((nI_vp (by omega)).mpr hne)⟩
    · by_cases ee : e = ne
      · subst ee
        rw [h1 e he e9, h3, a2 (Nat.le_refl e)]
        exact ⟨rfl, Or.inl rfl⟩
      · have b := a1 (by omega)
        rw [h1 e he e9, h2 e ee e9]
        exact b.2.2.2.2.2.2.2.2
  · rw [h1 e he (by omega)]
    exact a2 (by omega)
end RU
