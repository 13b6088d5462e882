/-! THE ONE WORLD: the cells of the class (0 .. 134), the law's own row (135) and the reference's (136 .. 153), at addresses ad k; what they hold: I (ints), L (longs), by cell and place -/
abbrev MI : Type := Nat → Nat → Int32
abbrev ML : Type := Nat → Nat → Int64
def sI (I : MI) (k j : Nat) (v : Int32) : MI := va_up I k (upd (I k) j v)
def sL (L : ML) (k j : Nat) (v : Int64) : ML := va_up L k (vp_updL (L k) j v)
theorem sI_at (I : MI) (k j : Nat) (v : Int32) (a b : Nat) : sI I k j v a b = if a = k ∧ b = j then v else I a b := by
  unfold sI va_up upd
  by_cases h : a = k
  · subst h
    by_cases h2 : b = j <;> simp [h2]
  · simp [h]
theorem sL_at (L : ML) (k j : Nat) (v : Int64) (a b : Nat) : sL L k j v a b = if a = k ∧ b = j then v else L a b := by
  unfold sL va_up vp_updL
  by_cases h : a = k
  · subst h
    by_cases h2 : b = j <;> simp [h2]
  · simp [h]
theorem sI_row {I : MI} {k j : Nat} {v : Int32} {a : Nat} (h : a ≠ k) : sI I k j v a = I a := va_up_ne _ _ h
theorem sL_row {L : ML} {k j : Nat} {v : Int64} {a : Nat} (h : a ≠ k) : sL L k j v a = L a := va_up_ne _ _ h
theorem sI_eq {I : MI} {k j : Nat} {v : Int32} : sI I k j v k j = v := by rw [sI_at]; simp
theorem sL_eq {L : ML} {k j : Nat} {v : Int64} : sL L k j v k j = v := by rw [sL_at]; simp
theorem sI_ne {I : MI} {k j : Nat} {v : Int32} {a b : Nat} (h : b ≠ j) : sI I k j v a b = I a b := by rw [sI_at]; simp [h]
theorem sL_ne {L : ML} {k j : Nat} {v : Int64} {a b : Nat} (h : b ≠ j) : sL L k j v a b = L a b := by rw [sL_at]; simp [h]
abbrev eL (cy : Nat → ClassId) (n : Nat) (g : Nat → Int64) : va_E := .inl (cy 0, n, .inr (.inl g))
abbrev eI (cy : Nat → ClassId) (n : Nat) (f : Nat → Int32) : va_E := .inl (cy 1, n, .inl f)
abbrev eZ (cy : Nat → ClassId) (n : Nat) (f : Nat → Int32) : va_E := .inl (cy 2, n, .inl f)
abbrev eR (cy : Nat → ClassId) (ad : Nat → Nat) (c n b st : Nat) : va_E := .inl (cy c, n, .inr (.inr (.inr (.inr (fun j => if j < n then some (ad (b + st * j)) else none)))))
abbrev fsB (ad : Nat → Nat) (f : Nat → Int32) (_ : Nat → Int64) : List Value := [.ref (ad 1), .ref (ad 2), .ref (ad 3), .int (f 3), .ref (ad 4), .ref (ad 5), .int (f 6), .ref (ad 6), .ref (ad 7)]
abbrev fsQ (f : Nat → Int32) (g : Nat → Int64) : List Value := [.int (f 0), .int (f 1), .long (g 2)]
abbrev fsE (f : Nat → Int32) (g : Nat → Int64) : List Value := [.int (f 0), .long (g 1), .int (f 2), .int (f 3), .int (f 4), .int (f 5)]
abbrev fsP (ad : Nat → Nat) (p : Nat) (f : Nat → Int32) (_ : Nat → Int64) : List Value := [.ref (ad (96 + 4 * p)), .ref (ad (97 + 4 * p)), .int (f 2), .int (f 3), .ref (ad (98 + 4 * p))]
abbrev fsM (ad : Nat → Nat) (f : Nat → Int32) (_ : Nat → Int64) : List Value := [.int (f 0), .ref (ad 137), .ref (ad 138), .int (f 3), .ref (ad 139), .ref (ad 140), .ref (ad 141), .ref (ad 142), .ref (ad 143), .int (f 9), .ref (ad 144), .ref (ad 145), .ref (ad 146), .ref (ad 147), .ref (ad 148), .ref (ad 149), .ref (ad 150), .ref (ad 151), .ref (ad 152), .ref (ad 153)]
def kct (cy : Nat → ClassId) (ad : Nat → Nat) (k : Nat) (f : Nat → Int32) (g : Nat → Int64) : va_E :=
  if k < 8 then
    (if k = 0 then .inr (3, fsB ad f g) else if k < 3 then eL cy 8 g else if k = 3 then eR cy ad 3 10 95 4 else if k = 4 then eR cy ad 4 6 8 1 else if k = 5 then eR cy ad 5 40 14 1 else if k = 6 then eR cy ad 6 41 54 1 else eL cy 4 g)
  else if k < 14 then .inr (2, fsQ f g)
  else if k < 54 then .inr (0, fsE f g)
  else if k < 95 then eL cy 8 g
  else if k < 135 then (if (k - 95) % 4 = 0 then .inr (1, fsP ad ((k - 95) / 4) f g) else if (k - 95) % 4 = 3 then eZ cy 8 f else eI cy 4 f)
  else if k = 135 then eL cy 1 g
  else if k = 136 then .inr (4, fsM ad f g)
  else if k < 139 then eL cy 8 g
  else if k < 141 then eI cy 10 f
  else if k < 143 then eI cy 40 f
  else if k = 143 then eZ cy 80 f
  else if k = 145 then eL cy 40 g
  else if k < 150 then eI cy 40 f
  else if k < 152 then eI cy 6 f
  else if k = 152 then eL cy 6 g
  else eL cy 4 g
section KD
variable {cy : Nat → ClassId} {ad : Nat → Nat}
theorem kd_Q {q : Nat} (h : q < 6) (f : Nat → Int32) (g : Nat → Int64) : kct cy ad (8 + q) f g = .inr (2, fsQ f g) := by
  unfold kct
  rw [if_neg (show ¬ 8 + q < 8 by omega), if_pos (show 8 + q < 14 by omega)]
theorem kd_E {e : Nat} (h : e < 40) (f : Nat → Int32) (g : Nat → Int64) : kct cy ad (14 + e) f g = .inr (0, fsE f g) := by
  unfold kct
  rw [if_neg (show ¬ 14 + e < 8 by omega), if_neg (show ¬ 14 + e < 14 by omega), if_pos (show 14 + e < 54 by omega)]
theorem kd_T {n : Nat} (h : n < 41) (f : Nat → Int32) (g : Nat → Int64) : kct cy ad (54 + n) f g = eL cy 8 g := by
  unfold kct
  rw [if_neg (show ¬ 54 + n < 8 by omega), if_neg (show ¬ 54 + n < 14 by omega), if_neg (show ¬ 54 + n < 54 by omega), if_pos (show 54 + n < 95 by omega)]
theorem kd_P {p : Nat} (h : p < 10) (f : Nat → Int32) (g : Nat → Int64) : kct cy ad (95 + 4 * p) f g = .inr (1, fsP ad p f g) := by
  unfold kct
  rw [if_neg (show ¬ 95 + 4 * p < 8 by omega), if_neg (show ¬ 95 + 4 * p < 14 by omega), if_neg (show ¬ 95 + 4 * p < 54 by omega), if_neg (show ¬ 95 + 4 * p < 95 by omega), if_pos (show 95 + 4 * p < 135 by omega), if_pos (show (95 + 4 * p - 95) % 4 = 0 by omega), show (95 + 4 * p - 95) / 4 = p by omega]
theorem kd_PA {p : Nat} (h : p < 10) (f : Nat → Int32) (g : Nat → Int64) : kct cy ad (96 + 4 * p) f g = eI cy 4 f := by
  unfold kct
  rw [if_neg (show ¬ 96 + 4 * p < 8 by omega), if_neg (show ¬ 96 + 4 * p < 14 by omega), if_neg (show ¬ 96 + 4 * p < 54 by omega), if_neg (show ¬ 96 + 4 * p < 95 by omega), if_pos (show 96 + 4 * p < 135 by omega), if_neg (show ¬ (96 + 4 * p - 95) % 4 = 0 by omega), if_neg (show ¬ (96 + 4 * p - 95) % 4 = 3 by omega)]
theorem kd_PS {p : Nat} (h : p < 10) (f : Nat → Int32) (g : Nat → Int64) : kct cy ad (97 + 4 * p) f g = eI cy 4 f := by
  unfold kct
  rw [if_neg (show ¬ 97 + 4 * p < 8 by omega), if_neg (show ¬ 97 + 4 * p < 14 by omega), if_neg (show ¬ 97 + 4 * p < 54 by omega), if_neg (show ¬ 97 + 4 * p < 95 by omega), if_pos (show 97 + 4 * p < 135 by omega), if_neg (show ¬ (97 + 4 * p - 95) % 4 = 0 by omega), if_neg (show ¬ (97 + 4 * p - 95) % 4 = 3 by omega)]
theorem kd_PG {p : Nat} (h : p < 10) (f : Nat → Int32) (g : Nat → Int64) : kct cy ad (98 + 4 * p) f g = eZ cy 8 f := by
  unfold kct
  rw [if_neg (show ¬ 98 + 4 * p < 8 by omega), if_neg (show ¬ 98 + 4 * p < 14 by omega), if_neg (show ¬ 98 + 4 * p < 54 by omega), if_neg (show ¬ 98 + 4 * p < 95 by omega), if_pos (show 98 + 4 * p < 135 by omega), if_neg (show ¬ (98 + 4 * p - 95) % 4 = 0 by omega), if_pos (show (98 + 4 * p - 95) % 4 = 3 by omega)]
end KD
def gw (cy : Nat → ClassId) (ad : Nat → Nat) (I : MI) (L : ML) : va_W := (List.range 154).map (fun k => (ad k, kct cy ad k (I k) (L k)))
theorem gw_at (cy : Nat → ClassId) (ad : Nat → Nat) (I : MI) (L : ML) {k : Nat} (h : k < 154) : (gw cy ad I L)[k]? = some (ad k, kct cy ad k (I k) (L k)) := by
  unfold gw
  rw [List.getElem?_map, List.getElem?_range h]
  rfl
theorem gw_lt {cy : Nat → ClassId} {ad : Nat → Nat} {I : MI} {L : ML} {k : Nat} {q : Nat × va_E} (h : (gw cy ad I L)[k]? = some q) : k < 154 ∧ q = (ad k, kct cy ad k (I k) (L k)) := by
  have h1 : k < 154 := by
    have := (List.getElem?_eq_some_iff.mp h).1
    unfold gw at this
    simpa using this
  rw [gw_at _ _ _ _ h1] at h
  exact ⟨h1, (Option.some.inj h).symm⟩
theorem gw_set {cy : Nat → ClassId} {ad : Nat → Nat} {I I' : MI} {L L' : ML} {k : Nat} {e : va_E} (hk : k < 154) (he : kct cy ad k (I' k) (L' k) = e) (hI : ∀ a, a ≠ k → I' a = I a) (hL : ∀ a, a ≠ k → L' a = L a) : (gw cy ad I L).set k (ad k, e) = gw cy ad I' L' := by
  apply List.ext_getElem?
  intro j
  have hlen : k < (gw cy ad I L).length := (List.getElem?_eq_some_iff.mp (gw_at cy ad I L hk)).1
  by_cases hj : j = k
  · subst hj
    rw [List.getElem?_set_self hlen, gw_at _ _ _ _ hk, he]
  · rw [List.getElem?_set_ne (Ne.symm hj)]
    by_cases h : j < 154
    · rw [gw_at _ _ _ _ h, gw_at _ _ _ _ h, hI j hj, hL j hj]
    · rw [List.getElem?_eq_none (by unfold gw; simp; omega), List.getElem?_eq_none (by unfold gw; simp; omega)]
def gP (D : va_G) (cy : Nat → ClassId) (ad : Nat → Nat) (I : MI) (L : ML) (H : Heap) : Prop := va_P D vwCl (gw cy ad I L) H
def gJ (ad : Nat → Nat) : Prop := ∀ i j : Nat, i < 154 → j < 154 → ad i = ad j → i = j
def gD (ad : Nat → Nat) (A : Nat → Prop) : Prop := gJ ad ∧ ∀ k : Nat, k < 154 → A (ad k)
def gA (ad : Nat → Nat) (sz : Nat) : Nat → Prop := fun q => (∃ k : Nat, k < 154 ∧ ad k = q) ∨ sz ≤ q
theorem gD.va {cy : Nat → ClassId} {ad : Nat → Nat} {A : Nat → Prop} (h : gD ad A) (I : MI) (L : ML) : va_D A (gw cy ad I L) := by
  refine ⟨fun i j p q hi hj e => ?_, fun k q hk => ?_⟩
  · obtain ⟨h1, rfl⟩ := gw_lt hi
    obtain ⟨h2, rfl⟩ := gw_lt hj
    exact h.1 i j h1 h2 e
  · obtain ⟨h1, rfl⟩ := gw_lt hk
    exact h.2 k h1
theorem gP.kept {D : va_G} {cy : Nat → ClassId} {ad : Nat → Nat} {I : MI} {L : ML} {H H1 : Heap} (h : gP D cy ad I L H) (hq : ∀ q : Nat, q < H.size → H1[q]? = H[q]?) : gP D cy ad I L H1 :=
  va_P.kept h (fun k q hk => hq q.1 ((h k q hk).lt))
def gty (cy : Nat → ClassId) : List (ClassId × FieldType) := [(cy 0, .long), (cy 1, .int), (cy 2, .boolean), (cy 3, .object "CertifiedBooks$Procedure"), (cy 4, .object "CertifiedBooks$Request"), (cy 5, .object "CertifiedBooks$Entry"), (cy 6, .array .long)]
/-- the words of a throw that warmer tables keep, but that aren't 'good' -/
abbrev xIO : String := "java/lang/IndexOutOfBoundsException"
abbrev xIA : String := "java/lang/IllegalArgumentException"
abbrev xIS : String := "java/lang/IllegalStateException"
abbrev xUO : String := "java/lang/UnsupportedOperationException"
def gEx : List String := [xIO, xIA, xIS, xUO]
def gNX : List Cond := [Cond.declares (Bundle.initS "java/lang/RuntimeException"), Cond.declares (Bundle.initS "java/lang/Exception"), Cond.declares (Bundle.initS "java/lang/Throwable"), Cond.castable xIO xIO, Cond.castable xIA xIA, Cond.castable xIS xIS, Cond.castable xUO xUO]
theorem gcast_warm {E F : String} {s U : State} (hW : s.WarmedH U.vm) (h : va_Nw (.castable E F) s) : va_Nw (.castable E F) U := by
  obtain ⟨c3, c4, hc3, hc4, hasg⟩ := Cond.castable_spec h
  have e3 : U.vm.findClass E = some c3 := by rw [hW.alike.findClass]; exact hc3
  have e4 : U.vm.findClass F = some c4 := by rw [hW.alike.findClass]; exact hc4
  have e5 : U.vm.assignable c3 c4 = true := by rw [hW.alike.assignable]; exact hasg
  simp [va_Nw, Cond.before, Cond.holds, Cond.value, e3, e4, e5]
theorem gNX_warm {s U : State} (hW : s.WarmedH U.vm) : ∀ w ∈ gNX, va_Nw w s → va_Nw w U :=
  List.forall_mem_cons.mpr ⟨va_Nw.warmD hW, List.forall_mem_cons.mpr ⟨va_Nw.warmD hW, List.forall_mem_cons.mpr ⟨va_Nw.warmD hW, List.forall_mem_cons.mpr ⟨gcast_warm hW, List.forall_mem_cons.mpr ⟨gcast_warm hW, List.forall_mem_cons.mpr ⟨gcast_warm hW, List.forall_mem_cons.mpr ⟨gcast_warm hW, fun _ h => absurd h List.not_mem_nil⟩⟩⟩⟩⟩⟩⟩
theorem gNX_on : ∀ w ∈ gNX, w.onTables = true := by decide
theorem gNX_in : ∀ w ∈ gNX, w ∈ lw_tbl := by decide +kernel
/-- what a method may take from the start's tables that isn't a good word -/
def gE (A : Nat → Prop) (U : State) (H : Heap) : Prop :=
  vx_Zq Bundle.tN "UNASSIGNED_STACK" Bundle.steD A U H ∧ vx_Zq Bundle.tN "SUPPRESSED_SENTINEL" Bundle.listD A U H ∧ (∀ w ∈ gNW, va_Nw w U) ∧ (∀ q ∈ gST, ∃ sa : Nat, vk_R RX3 q.1 q.2 sa U) ∧ (∀ w ∈ gNX, va_Nw w U) ∧ ∀ E ∈ gEx, ∀ F ∈ gEx, E ≠ F → va_Nc E F U
theorem gE.warm {A : Nat → Prop} {s U : State} {H : Heap} (h : gE A s H) (hW : s.WarmedH U.vm) : gE A U H :=
  ⟨vx_Zq.moved hW.alike h.1, vx_Zq.moved hW.alike h.2.1, fun w hw => gNW_warm hW w hw (h.2.2.1 w hw), fun q hq => (h.2.2.2.1 q hq).imp fun _ z => vk_R.warm hW z, fun w hw => gNX_warm hW w hw (h.2.2.2.2.1 w hw), fun E hE F hF hne => va_Nc.moved hW.alike (h.2.2.2.2.2 E hE F hF hne)⟩
theorem gE.kept {A : Nat → Prop} {U : State} {H H1 : Heap} (h : gE A U H) (hq : ∀ a : Nat, a < H.size → ¬ A a → H1[a]? = H[a]?) : gE A U H1 :=
  ⟨vx_Zq.kept h.1 hq, vx_Zq.kept h.2.1 hq, h.2.2⟩
theorem gE.narrow {A B : Nat → Prop} {U : State} {H : Heap} (h : gE A U H) (hAB : ∀ q, B q → A q) : gE B U H :=
  ⟨vx_Zq.narrow h.1 hAB, vx_Zq.narrow h.2.1 hAB, h.2.2⟩
/-- what stands throughout a method's body -/
def gC (p : Program) (s : State) (m : MethodId) (args : Array Value) (meth : Method) (c : Code) (cc : ByteArray) (nL : Nat) (own : String) (D : va_G) (cy : Nat → ClassId) (ad : Nat → Nat) (A : Nat → Prop) : Prop :=
  p.tables.exec = Jvm.exec ∧ c.code = cc ∧ c.maxLocals = nL ∧ s.vm.findClass own = some m.cls ∧ (∀ w ∈ WS, w.before args s = true) ∧ meth.locks = false ∧ va_K D vwCl (gty cy) s ∧ gD ad A ∧ (∀ q : Nat, s.heap.size ≤ q → A q) ∧ gE A s s.heap
section CC
variable {p : Program} {s : State} {m : MethodId} {args : Array Value} {meth : Method} {c : Code} {cc : ByteArray} {nL : Nat} {own : String} {D : va_G} {cy : Nat → ClassId} {ad : Nat → Nat} {A : Nat → Prop}
theorem gC.hx (C : gC p s m args meth c cc nL own D cy ad A) : p.tables.exec = Jvm.exec := C.1
theorem gC.hb (C : gC p s m args meth c cc nL own D cy ad A) : c.code = cc := C.2.1
theorem gC.hml (C : gC p s m args meth c cc nL own D cy ad A) : c.maxLocals = nL := C.2.2.1
theorem gC.hown (C : gC p s m args meth c cc nL own D cy ad A) : s.vm.findClass own = some m.cls := C.2.2.2.1
theorem gC.hts (C : gC p s m args meth c cc nL own D cy ad A) : ∀ w ∈ WS, w.before args s = true := C.2.2.2.2.1
theorem gC.hlk (C : gC p s m args meth c cc nL own D cy ad A) : meth.locks = false := C.2.2.2.2.2.1
theorem gC.hK (C : gC p s m args meth c cc nL own D cy ad A) : va_K D vwCl (gty cy) s := C.2.2.2.2.2.2.1
theorem gC.hD (C : gC p s m args meth c cc nL own D cy ad A) : gD ad A := C.2.2.2.2.2.2.2.1
theorem gC.hA (C : gC p s m args meth c cc nL own D cy ad A) : ∀ q : Nat, s.heap.size ≤ q → A q := C.2.2.2.2.2.2.2.2.1
theorem gC.hE (C : gC p s m args meth c cc nL own D cy ad A) : gE A s s.heap := C.2.2.2.2.2.2.2.2.2
theorem gC.sub (C : gC p s m args meth c cc nL own D cy ad A) {H : Heap} {locs : List Loc} (hS : va_S A s.heap H locs) : ∀ q, gA ad H.size q → A q := by
  intro q h
  rcases h with ⟨k, hk, rfl⟩ | h
  · exact C.hD.2 k hk
  · exact C.hA q (Nat.le_trans hS.1 h)
theorem gC.envAt (C : gC p s m args meth c cc nL own D cy ad A) {H : Heap} {locs : List Loc} (hS : va_S A s.heap H locs) {U : State} (hW : s.WarmedH U.vm) : gE (gA ad H.size) U H :=
  ((C.hE.warm hW).kept hS.2.1).narrow (C.sub hS)
end CC
