/-! words for what the methods compute -/
def gSh (x : Int32) : Prop := ¬ x < -100 ∧ ¬ 100 < x ∧ ¬ x = 0
def gsm (f : Nat → Int32) : Nat → Int32
  | 0 => 0
  | n + 1 => gsm f n + f n
def gq (amt : Int64) (f : Nat → Int32) (k : Nat) : Int64 := amt * (f k).toInt64 / 100
def gsq (amt : Int64) (f : Nat → Int32) : Nat → Int64
  | 0 => 0
  | n + 1 => gsq amt f n + gq amt f n
def gpo (amt : Int64) (f : Nat → Int32) (n k : Nat) : Int64 := if k + 1 = n then -(gsq amt f k) else gq amt f k
def gpw (amt : Int64) (f : Nat → Int32) (n : Nat) (v : Nat → Int64) : Nat → Int64 := fun k => if k < n then gpo amt f n k else v k
def gng (v : Nat → Int64) : Nat → Int64 := fun k => if k < 4 then -(v k) else v k
def gcn (b t : Nat → Int64) : Nat → Nat
  | 0 => 0
  | a + 1 => gcn b t a + (if b a = t a then 0 else 1)
theorem gcn_le (b t : Nat → Int64) : ∀ n, gcn b t n ≤ n
  | 0 => Nat.le_refl 0
  | n + 1 => by
    have := gcn_le b t n
    show gcn b t n + _ ≤ n + 1
    split <;> omega
def gdl (acc : Nat → Int32) (po : Nat → Int64) (a : Nat) : Nat → Int64
  | 0 => 0
  | n + 1 => gdl acc po a n + (if (acc n).toNatClampNeg = a then po n else 0)
def gfl (acc : Nat → Int32) (b fl po : Nat → Int64) (k : Nat) : Prop :=
  1000000000000 < b (acc k).toNatClampNeg + po k ∨ (b (acc k).toNatClampNeg + po k < fl (acc k).toNatClampNeg ∧ b (acc k).toNatClampNeg + po k < b (acc k).toNatClampNeg)
def gMR (np : Nat) (I : MI) (x y : Int32) : Prop := vp_in x 8 ∧ vp_in y np ∧ ¬ I (95 + 4 * y.toNatClampNeg) 3 = -1 ∧ ¬ I (95 + 4 * y.toNatClampNeg) 3 = x ∧ ¬ I (98 + 4 * y.toNatClampNeg) x.toNatClampNeg = 0
def gfq (f : Nat → Int32) : Nat := if f 0 = -1 then 0 else if f 1 = -1 then 1 else if f 2 = -1 then 2 else if f 3 = -1 then 3 else if f 4 = -1 then 4 else if f 5 = -1 then 5 else 6
theorem gfq_i {f : Nat → Int32} : ∀ i, i < 6 → (∀ k, k < i → ¬ f k = -1) → f i = -1 → gfq f = i
  | 0, _, _, h => by simp [gfq, h]
  | 1, _, h0, h => by simp [gfq, h, h0 0]
  | 2, _, h0, h => by simp [gfq, h, h0 0, h0 1]
  | 3, _, h0, h => by simp [gfq, h, h0 0, h0 1, h0 2]
  | 4, _, h0, h => by simp [gfq, h, h0 0, h0 1, h0 2, h0 3]
  | 5, _, h0, h => by simp [gfq, h, h0 0, h0 1, h0 2, h0 3, h0 4]
  | n + 6, hn, _, _ => absurd hn (by omega)
theorem gfq_6 {f : Nat → Int32} (h : ∀ k, k < 6 → ¬ f k = -1) : gfq f = 6 := by
  simp [gfq, h 0, h 1, h 2, h 3, h 4, h 5]
/-- behind a run's postings: balances and the totals' new row, i lines done -/
def gRL (L : ML) (acc : Nat → Int32) (t i : Nat) : ML := va_up (va_up L 1 (fun a => L 1 a + gdl acc (L 7) a i)) t (fun a => L t a + gdl acc (L 7) a i)
theorem MI_ext {f g : MI} (h : ∀ a b, f a b = g a b) : f = g := funext fun a => funext (h a)
theorem ML_ext {f g : ML} (h : ∀ a b, f a b = g a b) : f = g := funext fun a => funext (h a)
theorem gRL_0 (L : ML) (acc : Nat → Int32) (t : Nat) : gRL L acc t 0 = L := by
  apply ML_ext
  intro a b
  unfold gRL
  by_cases h1 : a = t
  · subst h1
    simp [va_up, gdl]
  · by_cases h2 : a = 1
    · subst h2
      simp [va_up, gdl, h1]
    · simp [va_up, h1, h2]
theorem gRL_s (L : ML) (acc : Nat → Int32) (t i a : Nat) (ht : t ≠ 1) (ht7 : t ≠ 7) (ha : (acc i).toNatClampNeg = a) :
    sL (sL (gRL L acc t i) 1 a (gRL L acc t i 1 a + gRL L acc t i 7 i)) t a (gRL L acc t i t a + gRL L acc t i 7 i) = gRL L acc t (i + 1) := by
  have h17 : ¬ (7 = t) := fun e => ht7 e.symm
  have h11 : ¬ (1 = t) := fun e => ht e.symm
  apply ML_ext
  intro c k
  rw [sL_at, sL_at]
  unfold gRL
  by_cases h1 : c = t
  · subst h1
    by_cases hk : k = a
    · subst hk
      simp [va_up, gdl, ha, h17, Int64.add_assoc]
    · simp [va_up, gdl, ha, hk, Ne.symm hk, ht]
  · by_cases h2 : c = 1
    · subst h2
      by_cases hk : k = a
      · subst hk
        simp [va_up, gdl, ha, h17, h1, Int64.add_assoc]
      · simp [va_up, gdl, ha, hk, Ne.symm hk, h1]
    · simp [va_up, h1, h2]
def gcp (L : ML) (j : Nat) : ML := va_up L (54 + (j + 1)) (fun k => if k < 8 then L (54 + j) k else L (54 + (j + 1)) k)
section CP
variable {p : Program} {l : Launch} {e : Env} {R : Room} {s : State} {m : MethodId} {args : Array Value} {below : List Frame} {meth : Method} {c : Code} {H : Heap} {locs : List Loc} {cells slots : Nat} {Q : State → Prop}
variable {cc : ByteArray} {nL : Nat} {own : String} {D : va_G} {cy : Nat → ClassId} {ad : Nat → Nat} {A : Nat → Prop} {I : MI} {L : ML} {pc : Nat} {ls : Array Slot} {rest : List Value}
theorem g_copyT (C : gC p s m args meth c cc nL own D cy ad A) (hP : gP D cy ad I L H) (hS : va_S A s.heap H locs) (hls : ls.size = nL) {index : Nat} (j : Nat) (hj : j + 1 < 41) (hl : Cond.methodLink own index arraycopyName ∈ WS) (hR : 1 ≤ R.frames ∧ 100 ≤ R.locals) (hcat : (rest.map fun v => v.category).sum ≤ 8) (hdg : decode cc pc = .ok (.invokestatic index, 3))
    (kk : ∀ (H1 : Heap) (locs1 : List Loc), gP D cy ad I (gcp L j) H1 → va_S A s.heap H1 locs1 → W p l e R s m args below meth c H1 locs1 cells slots Q (F0 m (pc + 3) ls rest)) : W p l e R s m args below meth c H locs cells slots Q (F0 m pc ls (.int 8 :: .int 0 :: .ref (ad (54 + (j + 1))) :: .int 0 :: .ref (ad (54 + j)) :: rest)) := by
  refine va_copyl (D := D) (cl := vwCl) (ty := .long) (n0 := 8) (n1 := 8) (f := L (54 + j)) (g := L (54 + (j + 1))) C.hx C.hb (C.hml.trans hls.symm) C.hown (C.hts _ hl) (C.hts _ knative_arraycopy) (C.hts _ kstatic_arraycopy) (C.hts _ kini_System) C.hK hP (C.hD.va I L) hS (54 + j) (54 + (j + 1)) 0 0
    (gw_k (by omega) (kd_T (by omega) _ _)) (gw_k (by omega) (kd_T hj _ _)) rfl rfl rfl (by decide) (by decide) (by decide) (by decide) (by decide) (fun i hi => rfl) hR.1 ?_ hdg (fun H1 locs1 hP1 _ hS1 => kk H1 locs1 ?_ hS1)
  · have h9 : nativeFrameWords "java/lang/System" "arraycopy" 5 + 11 ≤ 90 := by decide +kernel
    omega
  · rw [gw_set (I' := I) (L' := gcp L j) (by omega) ?_ (fun a h => rfl) (fun a h => va_up_ne _ _ h)] at hP1
    · exact hP1
    · rw [kd_T hj]
      congr 4
      unfold gcp
      rw [va_up_self]
      funext k
      show (if k < 8 then _ else _) = va_cpy _ _ (0 : Int32).toNatClampNeg (0 : Int32).toNatClampNeg (8 : Int32).toNatClampNeg k
      have e0 : (0 : Int32).toNatClampNeg = 0 := by decide
      have e8 : (8 : Int32).toNatClampNeg = 8 := by decide
      rw [e0, e8]
      unfold va_cpy
      simp
end CP
