/-! what the reference's methods compute -/
def gMM (I : MI) (x : Int32) (u p : Nat) : Prop := ¬ I 140 p < 0 ∧ ¬ I 140 p = x ∧ ¬ I 143 (8 * p + u) = 0
def gfw (f : Nat → Int32) : Nat := if f 0 < 0 then 0 else if f 1 < 0 then 1 else if f 2 < 0 then 2 else if f 3 < 0 then 3 else if f 4 < 0 then 4 else if f 5 < 0 then 5 else 6
theorem gfw_i {f : Nat → Int32} : ∀ i, i < 6 → (∀ k, k < i → ¬ f k < 0) → f i < 0 → gfw f = i
  | 0, _, _, h => by simp [gfw, h]
  | 1, _, h0, h => by simp [gfw, h, h0 0]
  | 2, _, h0, h => by simp [gfw, h, h0 0, h0 1]
  | 3, _, h0, h => by simp [gfw, h, h0 0, h0 1, h0 2]
  | 4, _, h0, h => by simp [gfw, h, h0 0, h0 1, h0 2, h0 3]
  | 5, _, h0, h => by simp [gfw, h, h0 0, h0 1, h0 2, h0 3, h0 4]
  | n + 6, hn, _, _ => absurd hn (by omega)
theorem gfw_6 {f : Nat → Int32} (h : ∀ k, k < 6 → ¬ f k < 0) : gfw f = 6 := by
  simp [gfw, h 0, h 1, h 2, h 3, h 4, h 5]
def gdn (i : Nat) : Int32 := nI i - 1
theorem gdn_s (j : Nat) : gdn (j + 1) = nI j := nI_pred j
theorem gdn_0 : gdn 0 = -1 := by decide
theorem gdn_neg {i : Nat} (hi : i < 2 ^ 31) (h : gdn i < 0) : i = 0 := by
  cases i with
  | zero => rfl
  | succ j =>
    rw [gdn_s] at h
    exact absurd h (nI_pos (by omega))
theorem gdn_nn {i : Nat} (h : ¬ gdn i < 0) : gdn i = nI (i - 1) ∧ 1 ≤ i := by
  cases i with
  | zero => exact absurd (show gdn 0 < 0 by decide) h
  | succ j => exact ⟨gdn_s j, by omega⟩
theorem gdn_dec {i : Nat} (h : 1 ≤ i) : gdn i + Int32.ofInt (-1) = gdn (i - 1) := by
  cases i with
  | zero => omega
  | succ j =>
    rw [gdn_s]
    show nI j + Int32.ofInt (-1) = nI j - 1
    rw [Int32.sub_eq_add_neg]
    rfl
def gzI (f : Nat → Int32) (i : Nat) (z : Int32) : Prop := (∃ j, i ≤ j ∧ j < 6 ∧ f j < 0 ∧ (∀ k, i ≤ k → k < j → ¬ f k < 0) ∧ z = nI j) ∨ ((∀ k, i ≤ k → k < 6 → ¬ f k < 0) ∧ z = -1)
theorem gzI_0 {f : Nat → Int32} : gzI f 6 (-1) := Or.inr ⟨fun k h1 h2 => by omega, rfl⟩
theorem gzI_y {f : Nat → Int32} {i : Nat} (hi : i ≤ 6) (h1 : 1 ≤ i) (h : f (i - 1) < 0) : gzI f (i - 1) (gdn i) := by
  refine Or.inl ⟨i - 1, Nat.le_refl _, by omega, h, fun k a b => by omega, ?_⟩
  have := gdn_s (i - 1)
  rw [show i - 1 + 1 = i by omega] at this
  exact this
theorem gzI_n {f : Nat → Int32} {i : Nat} {z : Int32} (h1 : 1 ≤ i) (h : ¬ f (i - 1) < 0) (hz : gzI f i z) : gzI f (i - 1) z := by
  rcases hz with ⟨j, a, b, c, d, e⟩ | ⟨a, e⟩
  · refine Or.inl ⟨j, by omega, b, c, fun k x y => ?_, e⟩
    by_cases hk : k = i - 1
    · rw [hk]; exact h
    · exact d k (by omega) y
  · refine Or.inr ⟨fun k x y => ?_, e⟩
    by_cases hk : k = i - 1
    · rw [hk]; exact h
    · exact a k (by omega) y
theorem gzI_end {f : Nat → Int32} {z : Int32} (h : gzI f 0 z) : (gfw f < 6 ∧ nI (gfw f) = z) ∨ (¬ gfw f < 6 ∧ -1 = z) := by
  rcases h with ⟨j, a, b, c, d, e⟩ | ⟨a, e⟩
  · have h := gfw_i j b (fun k hk => d k (Nat.zero_le k) hk) c
    exact Or.inl ⟨by omega, by rw [h, e]⟩
  · have h := gfw_6 (fun k hk => a k (Nat.zero_le k) hk)
    exact Or.inr ⟨by omega, e.symm⟩
/-- findPosts: one line more -/
theorem fps_step {L1 : ML} {g : Nat → Int64} {v : Int64} {i : Nat} (hv : v = g i) (h1 : ∀ k, k < i → L1 153 k = g k) : ∀ k, k < i + 1 → sL L1 153 i v 153 k = g k := fun k hk => by
  rw [sL_at]
  by_cases e : k = i
  · subst e
    rw [if_pos ⟨rfl, rfl⟩, hv]
  · rw [if_neg (fun z => e z.2)]
    exact h1 k (by omega)
theorem fps_end {L L1 : ML} {x : Int64} {f : Nat → Int32} {nn i : Nat} (hi : nn = i) (h0 : ∀ c, c ≠ 153 → L1 c = L c) (h1 : ∀ k, k < i → L1 153 k = gpo x f nn k) (h2 : ∀ k, i ≤ k → L1 153 k = L 153 k) : va_up L 153 (gpw x f nn (L 153)) = L1 := by
  apply ML_ext
  intro c k
  by_cases hc : c = 153
  · subst hc
    unfold gpw
    rw [va_up_self]
    by_cases h : k < nn
    · rw [if_pos h, h1 k (by omega)]
    · rw [if_neg h, h2 k (by omega)]
  · rw [va_up_ne _ _ hc, h0 c hc]
theorem gdl_n (acc : Nat → Int32) (po : Nat → Int64) (a n : Nat) : gdl acc po a (n + 1) = gdl acc po a n + (if (acc n).toNatClampNeg = a then po n else 0) := rfl
/-- run: i lines posted -/
def gRM (L : ML) (acc : Nat → Int32) (po : Nat → Int64) (i : Nat) : ML := va_up L 137 (fun a => L 137 a + gdl acc po a i)
theorem gRM_0 (L : ML) (acc : Nat → Int32) (po : Nat → Int64) : gRM L acc po 0 = L := by
  apply ML_ext
  intro a b
  unfold gRM
  by_cases h : a = 137
  · subst h
    simp [va_up, gdl]
  · simp [va_up, h]
theorem gdl_0 {acc : Nat → Int32} {po : Nat → Int64} {a : Nat} : ∀ n : Nat, (∀ k, k < n → (acc k).toNatClampNeg ≠ a) → gdl acc po a n = 0
  | 0, _ => rfl
  | n + 1, h => by
    show gdl acc po a n + _ = 0
    rw [gdl_0 n (fun k hk => h k (by omega)), if_neg (h n (by omega))]
    rfl
def gdis (acc : Nat → Int32) (n : Nat) : Prop := ∀ j k, j < n → k < n → (acc j).toNatClampNeg = (acc k).toNatClampNeg → j = k
theorem gRM_a {L : ML} {acc : Nat → Int32} {po : Nat → Int64} {n i : Nat} (hd : gdis acc n) (hi : i < n) : gRM L acc po i 137 (acc i).toNatClampNeg = L 137 (acc i).toNatClampNeg := by
  unfold gRM
  rw [va_up_self]
  show L 137 _ + gdl acc po _ i = _
  rw [gdl_0 i (fun k hk e => by have := hd k i (by omega) hi e; omega), Int64.add_zero]
theorem gRM_s {L : ML} {acc : Nat → Int32} {po : Nat → Int64} {n i : Nat} (hd : gdis acc n) (hi : i < n) : sL (gRM L acc po i) 137 (acc i).toNatClampNeg (L 137 (acc i).toNatClampNeg + po i) = gRM L acc po (i + 1) := by
  have h0 := gdl_0 (po := po) (a := (acc i).toNatClampNeg) i (fun k hk e => by have := hd k i (by omega) hi e; omega)
  apply ML_ext
  intro c k
  rw [sL_at]
  unfold gRM
  by_cases hc : c = 137
  · subst hc
    rw [va_up_self, va_up_self]
    by_cases hk : k = (acc i).toNatClampNeg
    · subst hk
      rw [if_pos ⟨rfl, rfl⟩, gdl_n, if_pos rfl, h0, Int64.zero_add]
    · rw [if_neg (show ¬ ((137 : Nat) = 137 ∧ k = _) from fun z => hk z.2), gdl_n, if_neg (Ne.symm hk), Int64.add_zero]
  · rw [if_neg (fun z => hc z.1), va_up_ne _ _ hc, va_up_ne _ _ hc]
/-- run: k of i lines taken back -/
def gUM (L : ML) (acc : Nat → Int32) (po : Nat → Int64) (i k : Nat) : ML := va_up L 137 (fun a => L 137 a + gdl acc po a i - gdl acc po a k)
theorem gUM_0 (L : ML) (acc : Nat → Int32) (po : Nat → Int64) (i : Nat) : gUM L acc po i 0 = gRM L acc po i := by
  unfold gUM gRM
  congr 1
  funext a
  exact Int64.sub_zero _
theorem gUM_i (L : ML) (acc : Nat → Int32) (po : Nat → Int64) (i : Nat) : gUM L acc po i i = L := by
  apply ML_ext
  intro a b
  unfold gUM
  by_cases h : a = 137
  · subst h
    rw [va_up_self]
    exact Int64.add_sub_cancel _ _
  · rw [va_up_ne _ _ h]
theorem gUM_s (L : ML) (acc : Nat → Int32) (po : Nat → Int64) (i k a : Nat) (ha : (acc k).toNatClampNeg = a) : sL (gUM L acc po i k) 137 a (gUM L acc po i k 137 a - po k) = gUM L acc po i (k + 1) := by
  apply ML_ext
  intro c b
  rw [sL_at]
  unfold gUM
  by_cases hc : c = 137
  · subst hc
    rw [va_up_self, va_up_self]
    by_cases hb : b = a
    · subst hb
      rw [if_pos ⟨rfl, rfl⟩, gdl_n, if_pos ha, Int64.sub_sub]
    · rw [if_neg (show ¬ ((137 : Nat) = 137 ∧ b = _) from fun z => hb z.2), gdl_n, if_neg (by rw [ha]; exact Ne.symm hb), Int64.add_zero]
  · rw [if_neg (fun z => hc z.1), va_up_ne _ _ hc, va_up_ne _ _ hc]
/-- what the first entries posted to an account -/
def gmA (I : MI) (p : Nat) : Nat → Int32 := fun k => I 141 (4 * p + k)
def gmS (I : MI) (p : Nat) : Nat → Int32 := fun k => I 142 (4 * p + k)
def gep (I : MI) (lc : Nat → Nat) (am : Nat → Int64) (e : Nat) : Nat → Int64 := fun k => if I 148 e < 0 then gpo (am e) (gmS I (I 144 e).toNatClampNeg) (lc (I 144 e).toNatClampNeg) k else -(gpo (am e) (gmS I (I 144 e).toNatClampNeg) (lc (I 144 e).toNatClampNeg) k)
def glg (I : MI) (lc : Nat → Nat) (am : Nat → Int64) (a : Nat) : Nat → Int64
  | 0 => 0
  | e + 1 => glg I lc am a e + gdl (gmA I (I 144 e).toNatClampNeg) (gep I lc am e) a (lc (I 144 e).toNatClampNeg)
/-- .. and the reference's row of postings behind it -/
def gsc (I : MI) (lc : Nat → Nat) (L : ML) : Nat → ML
  | 0 => L
  | e + 1 => va_up (gsc I lc L e) 153 (gpw (L 145 e) (gmS I (I 144 e).toNatClampNeg) (lc (I 144 e).toNatClampNeg) (gsc I lc L e 153))
theorem gsc_o (I : MI) (lc : Nat → Nat) (L : ML) {c : Nat} (h : c ≠ 153) : ∀ n, gsc I lc L n c = L c
  | 0 => rfl
  | n + 1 => (va_up_ne _ _ h).trans (gsc_o I lc L h n)
def glf (I : MI) (lc : Nat → Nat) (am : Nat → Int64) (ne : Nat) : Nat → Int64 := fun a => glg I lc am a ne
def gSS (I : MI) (lc : Nat → Nat) (L : ML) (ne : Nat) : Nat → ML
  | 0 => L
  | a + 1 => if gcn (L 137) (glf I lc (L 145) ne) a = 0 then gsc I lc (gSS I lc L ne a) ne else gSS I lc L ne a
theorem gSS_o (I : MI) (lc : Nat → Nat) (L : ML) (ne : Nat) {c : Nat} (h : c ≠ 153) : ∀ n, gSS I lc L ne n c = L c
  | 0 => rfl
  | n + 1 => by
    show (if _ then _ else _ : ML) c = _
    split
    · exact (gsc_o I lc _ h ne).trans (gSS_o I lc L ne h n)
    · exact gSS_o I lc L ne h n
def gz (b t : Nat → Int64) (n : Nat) : Int32 := if gcn b t n = 0 then 1 else 0
theorem gz_0 {b t : Nat → Int64} : gz b t 0 = 1 := rfl
/-- restore: a accounts set -/
def gRT (I : MI) (lc : Nat → Nat) (L : ML) (ne : Nat) : Nat → ML
  | 0 => L
  | a + 1 => sL (gsc I lc (gRT I lc L ne a) ne) 137 a (glg I lc (L 145) a ne)
theorem gRT_o (I : MI) (lc : Nat → Nat) (L : ML) (ne : Nat) {c : Nat} (h : c ≠ 153) (h2 : c ≠ 137) : ∀ n, gRT I lc L ne n c = L c
  | 0 => rfl
  | n + 1 => (sL_row h2).trans ((gsc_o I lc _ h ne).trans (gRT_o I lc L ne h h2 n))
theorem gRT_b (I : MI) (lc : Nat → Nat) (L : ML) (ne : Nat) : ∀ n b, gRT I lc L ne n 137 b = if b < n then glg I lc (L 145) b ne else L 137 b
  | 0, b => by rw [if_neg (Nat.not_lt_zero b)]; rfl
  | n + 1, b => by
    show sL _ 137 n _ 137 b = _
    rw [sL_at]
    by_cases h : b = n
    · subst h
      rw [if_pos ⟨rfl, rfl⟩, if_pos (Nat.lt_succ_self b)]
    · rw [if_neg (fun z => h z.2), gsc_o I lc _ (by decide) ne, gRT_b I lc L ne n b]
      by_cases hl : b < n
      · rw [if_pos hl, if_pos (Nat.lt_succ_of_lt hl)]
      · rw [if_neg hl, if_neg (by omega)]
theorem vp_mono {x : Int32} {n N : Nat} (h : vp_in x n) (hn : n ≤ N) : vp_in x N := by
  rw [vp_in_iff] at h ⊢
  omega
theorem hl_n {f : Nat → Int32} {x z : Int32} {i : Nat} (hc : z = 0) (h : ¬ f i = x) (hz : (z = 1 ∧ ∃ k, k < i ∧ f k = x) ∨ (z = 0 ∧ ¬ ∃ k, k < i ∧ f k = x)) : ((0 : Int32) = 1 ∧ ∃ k, k < i + 1 ∧ f k = x) ∨ ((0 : Int32) = 0 ∧ ¬ ∃ k, k < i + 1 ∧ f k = x) := by
  rcases hz with ⟨a, -⟩ | ⟨-, b⟩
  · rw [hc] at a
    exact absurd a (by decide)
  · refine Or.inr ⟨rfl, fun ⟨k, hk, e⟩ => ?_⟩
    by_cases e2 : k = i
    · rw [e2] at e
      exact h e
    · exact b ⟨k, by omega, e⟩
theorem hl_y {f : Nat → Int32} {x z : Int32} {i : Nat} (hc : ¬ z = 0) (hz : (z = 1 ∧ ∃ k, k < i ∧ f k = x) ∨ (z = 0 ∧ ¬ ∃ k, k < i ∧ f k = x)) : ((1 : Int32) = 1 ∧ ∃ k, k < i + 1 ∧ f k = x) ∨ ((1 : Int32) = 0 ∧ ¬ ∃ k, k < i + 1 ∧ f k = x) := by
  rcases hz with ⟨-, k, hk, e⟩ | ⟨a, -⟩
  · exact Or.inl ⟨rfl, k, by omega, e⟩
  · exact absurd a hc
theorem hl_b {z : Int32} {P Q : Prop} (hz : (z = 1 ∧ P) ∨ (z = 0 ∧ Q)) : narrow .boolean (.int z) = .int z := by
  rcases hz with ⟨rfl, -⟩ | ⟨rfl, -⟩ <;> rfl
theorem hl_e {f : Nat → Int32} {x z : Int32} {i nn : Nat} {I : MI} {L : ML} (hi : nn = i) (hz : (z = 1 ∧ ∃ k, k < i ∧ f k = x) ∨ (z = 0 ∧ ¬ ∃ k, k < i ∧ f k = x)) : ((∃ k, k < nn ∧ f k = x) ∧ 1 = z ∧ I = I ∧ L = L) ∨ (¬ (∃ k, k < nn ∧ f k = x) ∧ 0 = z ∧ I = I ∧ L = L) := by
  subst hi
  rcases hz with ⟨a, h⟩ | ⟨a, h⟩
  · exact Or.inl ⟨h, a.symm, rfl, rfl⟩
  · exact Or.inr ⟨h, a.symm, rfl, rfl⟩
/-! what is logged, line by line -/
theorem gd_0 {S : Int64} {acc : Nat → Int32} {po : Nat → Int64} {a : Nat} : S = S + gdl acc po a 0 := (Int64.add_zero _).symm
theorem gd_yp {S v : Int64} {acc : Nat → Int32} {po : Nat → Int64} {a k : Nat} (h : (acc k).toNatClampNeg = a) (hv : v = po k) : S + gdl acc po a k + v = S + gdl acc po a (k + 1) := by
  rw [gdl_n, if_pos h, hv, Int64.add_assoc]
theorem gd_ym {S v : Int64} {acc : Nat → Int32} {po : Nat → Int64} {a k : Nat} (h : (acc k).toNatClampNeg = a) (hv : -v = po k) : S + gdl acc po a k - v = S + gdl acc po a (k + 1) := by
  rw [gdl_n, if_pos h, ← hv, Int64.sub_eq_add_neg, Int64.add_assoc]
theorem gd_np {S : Int64} {acc : Nat → Int32} {po : Nat → Int64} {a k : Nat} (h : ¬ (acc k).toNatClampNeg = a) : S + gdl acc po a k + 0 = S + gdl acc po a (k + 1) := by
  rw [gdl_n, if_neg h, Int64.add_assoc]
theorem gd_nm {S : Int64} {acc : Nat → Int32} {po : Nat → Int64} {a k : Nat} (h : ¬ (acc k).toNatClampNeg = a) : S + gdl acc po a k - 0 = S + gdl acc po a (k + 1) := by
  rw [gdl_n, if_neg h, Int64.sub_zero, Int64.add_zero]
theorem gsc_153 {I : MI} {lc : Nat → Nat} {L : ML} {i k : Nat} (h : k < lc (I 144 i).toNatClampNeg) : gsc I lc L (i + 1) 153 k = gpo (L 145 i) (gmS I (I 144 i).toNatClampNeg) (lc (I 144 i).toNatClampNeg) k := by
  show (va_up (gsc I lc L i) 153 (gpw (L 145 i) (gmS I (I 144 i).toNatClampNeg) (lc (I 144 i).toNatClampNeg) (gsc I lc L i 153)) : ML) 153 k = _
  rw [va_up_self]
  exact if_pos h
theorem gz_nn {b t : Nat → Int64} {i : Nat} (h : gz b t i = 0) : 0 = gz b t (i + 1) := by
  unfold gz at h ⊢
  by_cases e : gcn b t i = 0
  · rw [if_pos e] at h; exact absurd h (by decide)
  · rw [if_neg (fun z => e (by have : gcn b t (i + 1) = gcn b t i + (if b i = t i then 0 else 1) := rfl; omega))]
theorem gz_ny {b t : Nat → Int64} {i : Nat} (h : ¬ gz b t i = 0) (hc : ¬ b i = t i) : 0 = gz b t (i + 1) := by
  unfold gz
  rw [if_neg (fun z => by have : gcn b t (i + 1) = gcn b t i + (if b i = t i then 0 else 1) := rfl; rw [if_neg hc] at this; omega)]
theorem gz_y0 {b t : Nat → Int64} {i : Nat} (h : ¬ gz b t i = 0) : gcn b t i = 0 := by
  unfold gz at h
  by_cases e : gcn b t i = 0
  · exact e
  · rw [if_neg e] at h; exact absurd rfl h
theorem gz_yy {b t : Nat → Int64} {i : Nat} (h : ¬ gz b t i = 0) (hc : b i = t i) : 1 = gz b t (i + 1) := by
  have h0 := gz_y0 h
  unfold gz
  rw [if_pos (by have : gcn b t (i + 1) = gcn b t i + (if b i = t i then 0 else 1) := rfl; rw [if_pos hc] at this; omega)]
theorem gz_b {b t : Nat → Int64} {i : Nat} : narrow .boolean (.int (gz b t i)) = .int (gz b t i) := by
  unfold gz
  split <;> rfl
theorem gSS_n {I : MI} {lc : Nat → Nat} {L : ML} {ne i : Nat} (h : gz (L 137) (glf I lc (L 145) ne) i = 0) : gSS I lc L ne i = gSS I lc L ne (i + 1) := by
  have h2 : ¬ gcn (L 137) (glf I lc (L 145) ne) i = 0 := fun z => by
    unfold gz at h
    rw [if_pos z] at h
    exact absurd h (by decide)
  exact (if_neg h2).symm
theorem gSS_y {I : MI} {lc : Nat → Nat} {L : ML} {ne i : Nat} (h : ¬ gz (L 137) (glf I lc (L 145) ne) i = 0) : gsc I lc (gSS I lc L ne i) ne = gSS I lc L ne (i + 1) := (if_pos (gz_y0 h)).symm
theorem gcn_eq {b t : Nat → Int64} {i : Nat} (h : b i = t i) : gcn b t (i + 1) = gcn b t i := by
  show gcn b t i + (if b i = t i then 0 else 1) = _
  rw [if_pos h]; rfl
theorem gcn_ne {b t : Nat → Int64} {i : Nat} (h : ¬ b i = t i) : gcn b t (i + 1) = gcn b t i + 1 := by
  show gcn b t i + (if b i = t i then 0 else 1) = _
  rw [if_neg h]
theorem gRT_i {I : MI} {lc : Nat → Nat} {L : ML} {ne i : Nat} : gsc I lc (gRT I lc L ne i) ne 137 i = L 137 i := by
  rw [gsc_o I lc _ (by decide) ne, gRT_b, if_neg (Nat.lt_irrefl i)]
