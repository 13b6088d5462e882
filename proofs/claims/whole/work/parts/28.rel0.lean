/-! THE RELATION: the cells of the class against those of the reference -/
theorem gdl_c {acc acc' : Nat → Int32} {po po' : Nat → Int64} {a : Nat} : ∀ n : Nat, (∀ k, k < n → acc k = acc' k ∧ po k = po' k) → gdl acc po a n = gdl acc' po' a n
  | 0, _ => rfl
  | n + 1, h => by
    have h0 := gdl_c (a := a) n (fun k hk => h k (by omega))
    have h1 := h n (by omega)
    show gdl acc po a n + (if (acc n).toNatClampNeg = a then po n else 0) = gdl acc' po' a n + (if (acc' n).toNatClampNeg = a then po' n else 0)
    rw [h0, h1.1, h1.2]
theorem gsq_c {amt : Int64} {f f' : Nat → Int32} : ∀ n : Nat, (∀ k, k < n → f k = f' k) → gsq amt f n = gsq amt f' n
  | 0, _ => rfl
  | n + 1, h => by
    have h0 := gsq_c (amt := amt) n (fun k hk => h k (by omega))
    show gsq amt f n + gq amt f n = gsq amt f' n + gq amt f' n
    unfold gq
    rw [h0, h n (by omega)]
theorem gpo_c {amt : Int64} {f f' : Nat → Int32} {n k : Nat} (h : ∀ j, j < n → f j = f' j) (hk : k < n) : gpo amt f n k = gpo amt f' n k := by
  unfold gpo gq
  rw [gsq_c k (fun j hj => h j (by omega)), h k hk]
theorem gsm_c {f f' : Nat → Int32} : ∀ n : Nat, (∀ k, k < n → f k = f' k) → gsm f n = gsm f' n
  | 0, _ => rfl
  | n + 1, h => by
    have h0 := gsm_c n (fun k hk => h k (by omega))
    show gsm f n + f n = gsm f' n + f' n
    rw [h0, h n (by omega)]
theorem gcn_c {b b' t t' : Nat → Int64} : ∀ n : Nat, (∀ a, a < n → b a = b' a ∧ t a = t' a) → gcn b t n = gcn b' t' n
  | 0, _ => rfl
  | n + 1, h => by
    have h0 := gcn_c n (fun k hk => h k (by omega))
    have h1 := h n (by omega)
    show gcn b t n + (if b n = t n then 0 else 1) = gcn b' t' n + (if b' n = t' n then 0 else 1)
    rw [h0, h1.1, h1.2]
theorem glg_c {I J : MI} {lc lc' : Nat → Nat} {am am' : Nat → Int64} {a : Nat} : ∀ n : Nat, (∀ e, e < n → J 144 e = I 144 e ∧ J 148 e = I 148 e ∧ am' e = am e ∧ lc' (I 144 e).toNatClampNeg = lc (I 144 e).toNatClampNeg ∧ ∀ k, k < lc (I 144 e).toNatClampNeg → gmA J (I 144 e).toNatClampNeg k = gmA I (I 144 e).toNatClampNeg k ∧ gmS J (I 144 e).toNatClampNeg k = gmS I (I 144 e).toNatClampNeg k) → glg J lc' am' a n = glg I lc am a n
  | 0, _ => rfl
  | n + 1, h => by
    have h0 := glg_c (a := a) n (fun k hk => h k (by omega))
    obtain ⟨h1, h2, h3, h4, h5⟩ := h n (by omega)
    show glg J lc' am' a n + gdl (gmA J (J 144 n).toNatClampNeg) (gep J lc' am' n) a (lc' (J 144 n).toNatClampNeg) = glg I lc am a n + gdl (gmA I (I 144 n).toNatClampNeg) (gep I lc am n) a (lc (I 144 n).toNatClampNeg)
    rw [h0, h1, h4]
    congr 1
    apply gdl_c
    intro k hk
    refine ⟨(h5 k hk).1, ?_⟩
    unfold gep
    rw [h1, h2, h3, h4, gpo_c (fun j hj => (h5 j hj).2) hk]
def iG1 (np ne : Nat) (I : MI) : Prop := I 0 3 = nI np ∧ I 136 3 = nI np ∧ np ≤ 10 ∧ I 0 6 = nI ne ∧ I 136 9 = nI ne ∧ ne ≤ 40
def iG2 (np : Nat) (lc : Nat → Nat) (I : MI) : Prop := ∀ p, p < 10 → I (95 + 4 * p) 2 = nI (lc p) ∧ I 139 p = nI (lc p) ∧ lc p ≤ 4 ∧ (p < np → 1 ≤ lc p) ∧ (np ≤ p → lc p = 0) ∧ (∀ k, k < lc p → I (96 + 4 * p) k = I 141 (4 * p + k) ∧ I (97 + 4 * p) k = I 142 (4 * p + k) ∧ vp_in (I 141 (4 * p + k)) 8) ∧ gdis (gmA I p) (lc p)
def iG3 (np : Nat) (I : MI) : Prop := ∀ p, p < 10 → (p < np → I (95 + 4 * p) 3 = I 140 p) ∧ (np ≤ p → I (95 + 4 * p) 3 = -1) ∧ (I (95 + 4 * p) 3 = -1 ∨ vp_in (I (95 + 4 * p) 3) 8) ∧ ∀ u, u < 8 → I (98 + 4 * p) u = I 143 (8 * p + u)
def iG4 (np : Nat) (I : MI) (L : ML) : Prop := ∀ q, q < 6 → I (8 + q) 0 = I 150 q ∧ (I 150 q = -1 ∨ (vp_in (I 150 q) 8 ∧ vp_in (I 151 q) np ∧ I (8 + q) 1 = I 151 q ∧ L (8 + q) 2 = L 152 q))
def iG5 (np ne : Nat) (I : MI) (L : ML) : Prop := ∀ e, e < 40 → (e < ne → I (14 + e) 0 = I 144 e ∧ vp_in (I 144 e) np ∧ ¬ I (95 + 4 * (I 144 e).toNatClampNeg) 3 = -1 ∧ L (14 + e) 1 = L 145 e ∧ I (14 + e) 2 = I 146 e ∧ I (14 + e) 3 = I 147 e ∧ I (14 + e) 4 = I 148 e ∧ (I 148 e = -1 ∨ vp_in (I 148 e) 40) ∧ I (14 + e) 5 = I 149 e ∧ (I 149 e = -1 ∨ vp_in (I 149 e) 40)) ∧ (ne ≤ e → I (14 + e) 5 = -1)
def iG6 (L : ML) : Prop := ∀ a, a < 8 → L 1 a = L 137 a ∧ L 2 a = L 138 a
def iG7 (ne : Nat) (lc : Nat → Nat) (I : MI) (L : ML) : Prop := ∀ n, n ≤ ne → ∀ a, a < 8 → L (54 + n) a = glg I lc (L 145) a n
def Inv (np ne : Nat) (lc : Nat → Nat) (I : MI) (L : ML) : Prop := iG1 np ne I ∧ iG2 np lc I ∧ iG3 np I ∧ iG4 np I L ∧ iG5 np ne I L ∧ iG6 L ∧ iG7 ne lc I L
/-- what the reference's contracts ask of its cells -/
def iMF (np ne : Nat) (lc : Nat → Nat) (I : MI) : Prop := I 136 3 = nI np ∧ I 136 9 = nI ne ∧ (∀ p, p < 10 → I 139 p = nI (lc p)) ∧ (∀ p, p < 10 → ∀ k, k < lc p → vp_in (I 141 (4 * p + k)) 8) ∧ (∀ e, e < ne → vp_in (I 144 e) np) ∧ (∀ p, p < 10 → gdis (gmA I p) (lc p)) ∧ (∀ q, q < 6 → ¬ I 150 q < 0 → vp_in (I 150 q) 8 ∧ vp_in (I 151 q) np)
def iRI (I J : MI) : Prop := ∀ k, 135 < k → J k = I k
def iRL (L K : ML) : Prop := ∀ k, 135 < k → K k = L k
theorem m1_neg : ((-1 : Int32) < 0) := by decide
theorem vp_nn {x : Int32} {n : Nat} (h : vp_in x n) : ¬ x < 0 := fun z => vpC z h
theorem vp_n1 {x : Int32} {n : Nat} (h : vp_in x n) : ¬ x = -1 := fun z => by
  rw [z] at h
  exact vp_nn h m1_neg
/-- -1 or in range: below 0 is -1 -/
theorem neg_1 {x : Int32} {n : Nat} (h : x = -1 ∨ vp_in x n) : x < 0 ↔ x = -1 := by
  rcases h with h | h
  · rw [h]
    exact ⟨fun _ => rfl, fun _ => m1_neg⟩
  · exact ⟨fun z => absurd z (vp_nn h), fun z => absurd z (vp_n1 h)⟩
theorem pos_1 {x : Int32} {n : Nat} (h : x = -1 ∨ vp_in x n) : 0 ≤ x ↔ ¬ x = -1 := by
  rw [← neg_1 h, Int32.not_lt]
section IV
variable {np ne : Nat} {lc : Nat → Nat} {I J : MI} {L K : ML}
theorem Inv.np10 (h : Inv np ne lc I L) : np ≤ 10 := h.1.2.2.1
theorem Inv.ne40 (h : Inv np ne lc I L) : ne ≤ 40 := h.1.2.2.2.2.2
theorem Inv.hnp (h : Inv np ne lc I L) : I 0 3 = nI np := h.1.1
theorem Inv.hne (h : Inv np ne lc I L) : I 0 6 = nI ne := h.1.2.2.2.1
theorem Inv.hlc (h : Inv np ne lc I L) : ∀ p, p < 10 → I (95 + 4 * p) 2 = nI (lc p) := fun p hp => (h.2.1 p hp).1
theorem Inv.lc4 (h : Inv np ne lc I L) : ∀ p, p < 10 → lc p ≤ 4 := fun p hp => (h.2.1 p hp).2.2.1
theorem Inv.lc1 (h : Inv np ne lc I L) : ∀ p, p < np → 1 ≤ lc p := fun p hp => (h.2.1 p (by have := h.np10; omega)).2.2.2.1 hp
theorem Inv.lc0 (h : Inv np ne lc I L) : ∀ p, np ≤ p → p < 10 → lc p = 0 := fun p hp h2 => (h.2.1 p h2).2.2.2.2.1 hp
theorem Inv.lin (h : Inv np ne lc I L) {p : Nat} (hp : p < 10) {k : Nat} (hk : k < lc p) : I (96 + 4 * p) k = I 141 (4 * p + k) ∧ I (97 + 4 * p) k = I 142 (4 * p + k) ∧ vp_in (I 141 (4 * p + k)) 8 := (h.2.1 p hp).2.2.2.2.2.1 k hk
theorem Inv.dis (h : Inv np ne lc I L) {p : Nat} (hp : p < 10) : gdis (gmA I p) (lc p) := (h.2.1 p hp).2.2.2.2.2.2
theorem Inv.hac (h : Inv np ne lc I L) : ∀ p, p < 10 → ∀ k, k < lc p → vp_in (I (96 + 4 * p) k) 8 := fun p hp k hk => by
  have := h.lin hp hk
  rw [this.1]
  exact this.2.2
theorem Inv.g3 (h : Inv np ne lc I L) : iG3 np I := h.2.2.1
theorem Inv.g4 (h : Inv np ne lc I L) : iG4 np I L := h.2.2.2.1
theorem Inv.g5 (h : Inv np ne lc I L) : iG5 np ne I L := h.2.2.2.2.1
theorem Inv.g6 (h : Inv np ne lc I L) : iG6 L := h.2.2.2.2.2.1
theorem Inv.g7 (h : Inv np ne lc I L) : iG7 ne lc I L := h.2.2.2.2.2.2
theorem iMF.of (h : Inv np ne lc I L) (hI : iRI I J) : iMF np ne lc J := by
  unfold iMF
  have hA : ∀ p, gmA J p = gmA I p := fun p => by unfold gmA; rw [hI 141 (by decide)]
  refine ⟨by rw [hI 136 (by decide)]; exact h.1.2.1, by rw [hI 136 (by decide)]; exact h.1.2.2.2.2.1, fun p hp => by rw [hI 139 (by decide)]; exact (h.2.1 p hp).2.1, fun p hp k hk => by rw [hI 141 (by decide)]; exact (h.lin hp hk).2.2, fun e he => by rw [hI 144 (by decide)]; exact ((h.g5 e (by have := h.ne40; omega)).1 he).2.1, fun p hp => by rw [hA]; exact h.dis hp, fun q hq hn => ?_⟩
  rw [hI 150 (by decide)] at hn ⊢
  rw [hI 151 (by decide)]
  rcases (h.g4 q hq).2 with e | e
  · rw [e] at hn
    exact absurd m1_neg hn
  · exact ⟨e.1, e.2.1⟩
/-! what is asked of the reference is what is asked of the class -/
theorem b_may (h : Inv np ne lc I L) (hI : ∀ k, 136 < k → J k = I k) {x y : Int32} (hx : vp_in x 8) (hy : vp_in y np) : gMM J x x.toNatClampNeg y.toNatClampNeg ↔ gMR np I x y := by
  have hy2 := (vp_ix hy).2
  have hx2 := (vp_ix hx).2
  have h10 := h.np10
  obtain ⟨a1, a2, a3, a4⟩ := h.g3 y.toNatClampNeg (by omega)
  unfold gMM gMR
  rw [hI 140 (by decide), hI 143 (by decide), ← a1 hy2, neg_1 a3, ← a4 _ hx2]
  exact ⟨fun z => ⟨hx, hy, z⟩, fun z => z.2.2⟩
theorem b_glf (h : Inv np ne lc I L) (hI : ∀ k, 136 < k → J k = I k) (hL : iRL L K) {n a : Nat} (hn : n ≤ ne) (ha : a < 8) : glg J lc (K 145) a n = L (54 + n) a := by
  rw [h.g7 n hn a ha, hL 145 (by decide)]
  refine glg_c n (fun e he => ⟨by rw [hI 144 (by decide)], by rw [hI 148 (by decide)], rfl, rfl, fun k hk => ⟨?_, ?_⟩⟩)
  · unfold gmA; rw [hI 141 (by decide)]
  · unfold gmS; rw [hI 142 (by decide)]
theorem b_cnt (h : Inv np ne lc I L) (hI : ∀ k, 136 < k → J k = I k) (hL : iRL L K) : gcn (K 137) (glf J lc (K 145) ne) 8 = gcn (L 1) (L (54 + ne)) 8 :=
  gcn_c 8 (fun a ha => ⟨by rw [hL 137 (by decide)]; exact (h.g6 a ha).1.symm, b_glf h hI hL (Nat.le_refl ne) ha⟩)
theorem b_snd (h : Inv np ne lc I L) (hI : ∀ k, 136 < k → J k = I k) (hL : iRL L K) : gz (K 137) (glf J lc (K 145) ne) 8 = 0 ↔ ¬ gcn (L 1) (L (54 + ne)) 8 = 0 := by
  unfold gz
  rw [b_cnt h hI hL]
  by_cases e : gcn (L 1) (L (54 + ne)) 8 = 0
  · rw [if_pos e]
    exact ⟨fun z => absurd z (by decide), fun z => absurd e z⟩
  · rw [if_neg e]
    exact ⟨fun _ => e, fun _ => rfl⟩
theorem b_has (h : Inv np ne lc I L) (hI : ∀ k, 136 < k → J k = I k) {p : Nat} (hp : p < 10) {x : Int32} : (∃ k, k < lc p ∧ J 141 (4 * p + k) = x) ↔ (∃ k, k < lc p ∧ I (96 + 4 * p) k = x) := by
  rw [hI 141 (by decide)]
  exact ⟨fun ⟨k, hk, e⟩ => ⟨k, hk, (h.lin hp hk).1.trans e⟩, fun ⟨k, hk, e⟩ => ⟨k, hk, (h.lin hp hk).1.symm.trans e⟩⟩
theorem b_sum (h : Inv np ne lc I L) (hI : ∀ k, 136 < k → J k = I k) {p : Nat} (hp : p < 10) : gsm (gmS J p) (lc p) = gsm (I (97 + 4 * p)) (lc p) :=
  gsm_c _ (fun k hk => by unfold gmS; rw [hI 142 (by decide)]; exact (h.lin hp hk).2.1.symm)
theorem b_cer (h : Inv np ne lc I L) (hI : ∀ k, 136 < k → J k = I k) {p : Nat} (hp : p < np) : 0 ≤ J 140 p ↔ ¬ I (95 + 4 * p) 3 = -1 := by
  have h10 := h.np10
  obtain ⟨a1, a2, a3, a4⟩ := h.g3 p (by omega)
  rw [hI 140 (by decide), ← a1 hp, pos_1 a3]
theorem b_req (h : Inv np ne lc I L) (hI : ∀ k, 136 < k → J k = I k) {q : Nat} (hq : q < 6) : J 150 q < 0 ↔ I (8 + q) 0 = -1 := by
  obtain ⟨a1, a2⟩ := h.g4 q hq
  rw [hI 150 (by decide), a1]
  rcases a2 with a2 | a2
  · exact neg_1 (n := 8) (Or.inl a2)
  · exact neg_1 (Or.inr a2.1)
theorem b_fq (h : Inv np ne lc I L) (hI : ∀ k, 136 < k → J k = I k) : gfw (J 150) = gfq (fun k => I (8 + k) 0) := by
  unfold gfw gfq
  simp only [b_req h hI (show 0 < 6 by decide), b_req h hI (show 1 < 6 by decide), b_req h hI (show 2 < 6 by decide), b_req h hI (show 3 < 6 by decide), b_req h hI (show 4 < 6 by decide), b_req h hI (show 5 < 6 by decide)]
theorem b_off {x : Int32} (hx : vp_in x 8) : (x = 0 ∨ x = 1) ↔ x < 2 := by
  have h1 := vp_in_iff.mp hx
  constructor
  · rintro (rfl | rfl) <;> decide
  · intro h
    have h2 := Int32.lt_iff_toInt_lt.mp h
    have e2 : (2 : Int32).toInt = 2 := rfl
    have e0 : (0 : Int32).toInt = 0 := rfl
    have e1 : (1 : Int32).toInt = 1 := rfl
    by_cases h3 : x.toInt = 0
    · exact Or.inl (Int32.toInt_inj.mp (h3.trans e0.symm))
    · exact Or.inr (Int32.toInt_inj.mp (by omega))
theorem gPW_0 {amt : Int64} {f : Nat → Int32} {n : Nat} {z : Int32} {c : Nat} (h : c ≠ 7) : gPW L amt f n z c = L c := by
  unfold gPW
  split
  · exact va_up_ne _ _ h
  · exact va_up_ne _ _ h
/-- what the lines post: the class's row and the reference's -/
theorem gPW_7 {amt : Int64} {f : Nat → Int32} {n k : Nat} {z : Int32} (hk : k < n) (hn : n ≤ 4) : gPW L amt f n z 7 k = if z = -1 then gpo amt f n k else -(gpo amt f n k) := by
  unfold gPW
  split
  · rw [va_up_self]; unfold gpw; rw [if_pos hk]
  · rw [va_up_self]; unfold gng gpw; rw [if_pos (by omega), if_pos hk]
theorem b_po (h : Inv np ne lc I L) (hI : ∀ k, 136 < k → J k = I k) {p : Nat} (hp : p < 10) {amt s : Int64} {w : Nat → Int64} {M : ML} {z : Int32} (hs : (s = 1 ∧ z = -1) ∨ (s = -1 ∧ ¬ z = -1)) {k : Nat} (hk : k < lc p) : s * gpw amt (gmS J p) (lc p) w k = gPW M amt (I (97 + 4 * p)) (lc p) z 7 k := by
  rw [gPW_7 hk (h.lc4 p hp)]
  unfold gpw
  rw [if_pos hk, gpo_c (f' := I (97 + 4 * p)) (fun j hj => by unfold gmS; rw [hI 142 (by decide)]; exact (h.lin hp hj).2.1.symm) hk]
  rcases hs with ⟨rfl, e⟩ | ⟨rfl, e⟩
  · rw [if_pos e, Int64.one_mul]
  · rw [if_neg e, Int64.neg_mul, Int64.one_mul]
theorem b_fail (h : Inv np ne lc I L) (hI : ∀ k, 136 < k → J k = I k) {p : Nat} (hp : p < 10) {amt s : Int64} {w : Nat → Int64} {M K' : ML} {z : Int32} (hs : (s = 1 ∧ z = -1) ∨ (s = -1 ∧ ¬ z = -1)) (hM1 : M 1 = L 1) (hM2 : M 2 = L 2) (hK1 : K' 137 = L 137) (hK2 : K' 138 = L 138) : (∀ k, k < lc p → ¬ gfl (gmA J p) (K' 137) (K' 138) (fun k => s * gpw amt (gmS J p) (lc p) w k) k) ↔ (∀ k, k < lc p → ¬ gfl (I (96 + 4 * p)) (gPW M amt (I (97 + 4 * p)) (lc p) z 1) (gPW M amt (I (97 + 4 * p)) (lc p) z 2) (gPW M amt (I (97 + 4 * p)) (lc p) z 7) k) := by
  have key : ∀ k, k < lc p → (gfl (gmA J p) (K' 137) (K' 138) (fun k => s * gpw amt (gmS J p) (lc p) w k) k ↔ gfl (I (96 + 4 * p)) (gPW M amt (I (97 + 4 * p)) (lc p) z 1) (gPW M amt (I (97 + 4 * p)) (lc p) z 2) (gPW M amt (I (97 + 4 * p)) (lc p) z 7) k) := fun k hk => by
    have hl := h.lin hp hk
    have ha : gmA J p k = I (96 + 4 * p) k := by unfold gmA; rw [hI 141 (by decide)]; exact hl.1.symm
    have h8 : (I (96 + 4 * p) k).toNatClampNeg < 8 := (vp_ix (h.hac p hp k hk)).2
    unfold gfl
    rw [ha, hK1, hK2, gPW_0 (c := 1) (by decide), gPW_0 (c := 2) (by decide), hM1, hM2, (h.g6 _ h8).1, (h.g6 _ h8).2]
    rw [show (fun k => s * gpw amt (gmS J p) (lc p) w k) k = gPW M amt (I (97 + 4 * p)) (lc p) z 7 k from b_po h hI hp hs hk]
  exact ⟨fun z k hk y => z k hk ((key k hk).mpr y), fun z k hk y => z k hk ((key k hk).mp y)⟩
end IV
