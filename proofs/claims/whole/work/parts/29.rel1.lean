/-! an operation that both sides answer alike, and what it leaves -/
def iO (k : Int32) (P : Prop) (I : MI) (L : ML) : Prop := I 136 0 = k ∧ (k = 0 → P) ∧ ∃ (np ne : Nat) (lc : Nat → Nat), Inv np ne lc I L
section IF
variable {np ne : Nat} {lc : Nat → Nat} {I J : MI} {L K : ML}
/-- the cells that the relation doesn't speak of: thrown, the rows of postings, the law's own row -/
theorem Inv.f (h : Inv np ne lc I L) (hI : ∀ k j, (k ≠ 136 ∨ j ≠ 0) → J k j = I k j) (hL : ∀ k, k ≠ 7 → k ≠ 135 → k ≠ 153 → K k = L k) : Inv np ne lc J K := by
  have hr : ∀ k, k ≠ 136 → J k = I k := fun k hk => funext fun j => hI k j (Or.inl hk)
  have hA : ∀ p, gmA J p = gmA I p := fun p => by unfold gmA; rw [hr 141 (by decide)]
  have hS : ∀ p, gmS J p = gmS I p := fun p => by unfold gmS; rw [hr 142 (by decide)]
  refine ⟨?_, fun p hp => ?_, fun p hp => ?_, fun q hq => ?_, fun e he => ?_, fun a ha => ?_, fun n hn a ha => ?_⟩
  · obtain ⟨a1, a2, a3, a4, a5, a6⟩ := h.1
    exact ⟨(hI 0 3 (Or.inl (by decide))).trans a1, (hI 136 3 (Or.inr (by decide))).trans a2, a3, (hI 0 6 (Or.inl (by decide))).trans a4, (hI 136 9 (Or.inr (by decide))).trans a5, a6⟩
  · have := h.2.1 p hp
    rw [hr (95 + 4 * p) (by omega), hr 139 (by decide), hr (96 + 4 * p) (by omega), hr (97 + 4 * p) (by omega), hr 141 (by decide), hr 142 (by decide), hA]
    exact this
  · have := h.g3 p hp
    rw [hr (95 + 4 * p) (by omega), hr 140 (by decide), hr (98 + 4 * p) (by omega), hr 143 (by decide)]
    exact this
  · have := h.g4 q hq
    rw [hr (8 + q) (by omega), hr 150 (by decide), hr 151 (by decide), hL (8 + q) (by omega) (by omega) (by omega), hL 152 (by decide) (by decide) (by decide)]
    exact this
  · have := h.g5 e he
    refine ⟨fun h1 => ?_, fun h1 => ?_⟩
    · have h2 := this.1 h1
      have h3 := vp_ix h2.2.1
      have h10 := h.np10
      rw [hr (14 + e) (by omega), hr 144 (by decide), hr (95 + 4 * (I 144 e).toNatClampNeg) (by omega), hL (14 + e) (by omega) (by omega) (by omega), hL 145 (by decide) (by decide) (by decide), hr 146 (by decide), hr 147 (by decide), hr 148 (by decide), hr 149 (by decide)]
      exact h2
    · rw [hr (14 + e) (by omega)]
      exact this.2 h1
  · rw [hL 1 (by decide) (by decide) (by decide), hL 2 (by decide) (by decide) (by decide), hL 137 (by decide) (by decide) (by decide), hL 138 (by decide) (by decide) (by decide)]
    exact h.g6 a ha
  · rw [hL (54 + n) (by have := h.ne40; omega) (by have := h.ne40; omega) (by have := h.ne40; omega), hL 145 (by decide) (by decide) (by decide), h.g7 n hn a ha]
    exact (glg_c n (fun e _ => ⟨by rw [hr 144 (by decide)], by rw [hr 148 (by decide)], rfl, rfl, fun k _ => ⟨by rw [hA], by rw [hS]⟩⟩)).symm
theorem iO_t (h : Inv np ne lc I L) {k : Int32} {P : Prop} (hk : ¬ k = 0) (h0 : J 136 0 = k) (hI : ∀ k j, (k ≠ 136 ∨ j ≠ 0) → J k j = I k j) (hL : ∀ k, k ≠ 7 → k ≠ 135 → k ≠ 153 → K k = L k) : iO k P J K :=
  ⟨h0, fun z => absurd z hk, np, ne, lc, h.f hI hL⟩
theorem iO_r (h : Inv np ne lc I L) {k : Int32} {P : Prop} (h0 : J 136 0 = k) (hP : P) (hI : ∀ k j, (k ≠ 136 ∨ j ≠ 0) → J k j = I k j) (hL : ∀ k, k ≠ 7 → k ≠ 135 → k ≠ 153 → K k = L k) : iO k P J K :=
  ⟨h0, fun _ => hP, np, ne, lc, h.f hI hL⟩
theorem iO_n (h : Inv np ne lc I L) {k : Int32} {P : Prop} (h0 : I 136 0 = k) (hP : P) : iO k P I L := ⟨h0, fun _ => hP, np, ne, lc, h⟩
theorem gcp_o {j c : Nat} (h : c ≠ 54 + (j + 1)) : gcp L j c = L c := va_up_ne _ _ h
theorem gRL_o {acc : Nat → Int32} {t n c : Nat} (h : c ≠ t) (h1 : c ≠ 1) : gRL L acc t n c = L c := (va_up_ne _ _ h).trans (va_up_ne _ _ h1)
theorem gRS_o {i c : Nat} (h1 : c ≠ 1) : gRS L ne i c = L c := va_up_ne _ _ h1
theorem gRM_o {acc : Nat → Int32} {po : Nat → Int64} {n c : Nat} (h1 : c ≠ 137) : gRM L acc po n c = L c := va_up_ne _ _ h1
theorem s_row {k j : Nat} {v : Int32} (hk : k = 136) (c : Nat) (h : 136 < c) : sI I k j v c = I c := sI_row (by omega)
end IF
