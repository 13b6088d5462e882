/-! what the class's loops compute -/
theorem gpw_end {L L1 : ML} {x : Int64} {f : Nat → Int32} {nn i : Nat} (hi : nn = i + 1) (hj : nn - 1 = i) (h0 : ∀ c, c ≠ 7 → L1 c = L c) (h1 : ∀ k, k < i → L1 7 k = gq x f k) (h2 : ∀ k, i ≤ k → L1 7 k = L 7 k) : va_up L 7 (gpw x f nn (L 7)) = sL L1 7 (nn - 1) (-(gsq x f i)) := by
  rw [hj]
  apply ML_ext
  intro c k
  rw [sL_at]
  by_cases hc : c = 7
  · subst hc
    unfold gpw gpo
    rw [va_up_self]
    by_cases e : k = i
    · subst e
      rw [if_pos (show k < nn by omega), if_pos (show k + 1 = nn by omega), if_pos ⟨rfl, rfl⟩]
    · rw [if_neg (show ¬ ((7 : Nat) = 7 ∧ k = i) from fun z => e z.2)]
      by_cases h : k < nn
      · rw [if_pos h, if_neg (show ¬ k + 1 = nn by omega)]
        exact (h1 k (by omega)).symm
      · rw [if_neg h]
        exact (h2 k (by omega)).symm
  · rw [if_neg (fun z => hc z.1), va_up_ne _ _ hc, h0 c hc]
theorem gpw_step {L1 : ML} {x : Int64} {f : Nat → Int32} {i : Nat} (h1 : ∀ k, k < i → L1 7 k = gq x f k) : ∀ k, k < i + 1 → sL L1 7 i (gq x f i) 7 k = gq x f k := fun k hk => by
  rw [sL_at]
  by_cases e : k = i
  · subst e
    rw [if_pos ⟨rfl, rfl⟩]
  · rw [if_neg (fun z => e z.2)]
    exact h1 k (by omega)
theorem gng_end {L L1 : ML} (h0 : ∀ c, c ≠ 7 → L1 c = L c) {i : Nat} (hi : i ≤ 4) (h4 : 4 ≤ i) (h1 : ∀ k, k < i → L1 7 k = -(L 7 k)) (h2 : ∀ k, i ≤ k → L1 7 k = L 7 k) : va_up L 7 (gng (L 7)) = L1 := by
  apply ML_ext
  intro c k
  by_cases hc : c = 7
  · subst hc
    rw [va_up_self]
    unfold gng
    by_cases h : k < 4
    · rw [if_pos h, h1 k (by omega)]
    · rw [if_neg h, h2 k (by omega)]
  · rw [va_up_ne _ _ hc, h0 c hc]
theorem gng_step {L L1 : ML} {i : Nat} (h1 : ∀ k, k < i → L1 7 k = -(L 7 k)) (h2 : ∀ k, i ≤ k → L1 7 k = L 7 k) : ∀ k, k < i + 1 → sL L1 7 i (-(L1 7 i)) 7 k = -(L 7 k) := fun k hk => by
  rw [sL_at]
  by_cases e : k = i
  · subst e
    rw [if_pos ⟨rfl, rfl⟩, h2 k (Nat.le_refl k)]
  · rw [if_neg (fun z => e z.2)]
    exact h1 k (by omega)
def gPW (L : ML) (amt : Int64) (f : Nat → Int32) (n : Nat) (x : Int32) : ML := if x = -1 then va_up L 7 (gpw amt f n (L 7)) else va_up L 7 (gng (gpw amt f n (L 7)))
theorem gPW_p {L : ML} {amt : Int64} {f : Nat → Int32} {n : Nat} {x : Int32} (h : x = -1) : va_up L 7 (gpw amt f n (L 7)) = gPW L amt f n x := (if_pos h).symm
theorem gPW_n {L : ML} {amt : Int64} {f : Nat → Int32} {n : Nat} {x : Int32} (h : ¬ x = -1) : va_up (va_up L 7 (gpw amt f n (L 7))) 7 (gng ((va_up L 7 (gpw amt f n (L 7))) 7)) = gPW L amt f n x := by
  unfold gPW
  rw [if_neg h, bx_uu, va_up_self]
theorem gb_nar {x : Int32} (h : x = 0 ∨ x = 1) : vp_nar .boolean x = x := by rcases h with rfl | rfl <;> rfl
def gRS (L : ML) (ne i : Nat) : ML := va_up L 1 (fun a => if a < i then L (54 + ne) a else L 1 a)
theorem gRS_0 (L : ML) (ne : Nat) : gRS L ne 0 = L := by
  apply ML_ext
  intro a b
  unfold gRS
  by_cases h : a = 1
  · subst h
    simp [va_up]
  · simp [va_up, h]
theorem gRS_s (L : ML) (ne i : Nat) (h : i < 2 ^ 31) : sL (gRS L ne i) 1 i (gRS L ne i (54 + ne) i) = gRS L ne (i + 1) := by
  apply ML_ext
  intro a b
  rw [sL_at]
  unfold gRS
  have h1 : ¬ (54 + ne = 1) := by omega
  by_cases ha : a = 1
  · subst ha
    rw [va_up_self, va_up_self, va_up_ne _ _ h1]
    by_cases hb : b = i
    · subst hb
      rw [if_pos ⟨rfl, rfl⟩, if_pos (Nat.lt_succ_self b)]
    · rw [if_neg (fun z => hb z.2)]
      by_cases hl : b < i
      · rw [if_pos hl, if_pos (Nat.lt_succ_of_lt hl)]
      · rw [if_neg hl, if_neg (by omega)]
  · rw [if_neg (fun z => ha z.1), va_up_ne _ _ ha, va_up_ne _ _ ha]
