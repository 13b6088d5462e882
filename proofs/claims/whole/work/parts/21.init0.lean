/-! what makes the world: the rows of the constructors -/
theorem va_AOA.moved {t : FieldType} {u U : State} (hvm : u.vm.Alike U.vm) (h : va_AOA t u) : va_AOA t U := by
  have key : ∃ comp c k, u.vm.findClass (FieldType.array t).toString = some comp ∧ (u.vm.classes.findIdx? fun (x : Class) => match x.kind with | .array component _ => component == comp | _ => false) = some c ∧ u.vm.classes[c]? = some k ∧ (∃ comp2, k.kind = .array comp2 (.array t)) ∧ u.vm.findClass ("[" ++ (FieldType.array t).toString) = some c := by
    unfold va_AOA Cond.before Cond.holds at h
    simp only [Cond.value, beq_iff_eq] at h
    cases hc : u.vm.findClass (FieldType.array t).toString with
    | none => simp [hc] at h
    | some comp =>
      simp only [hc, Option.bind_some, Option.bind_eq_some_iff, Option.map_eq_some_iff] at h
      obtain ⟨c, hi, k, hk, hb⟩ := h
      cases hkind : k.kind with
      | array component ty =>
        rw [hkind] at hb
        simp at hb
        exact ⟨comp, c, k, rfl, hi, hk, ⟨component, by rw [hkind, hb.1]⟩, hb.2⟩
      | _ => rw [hkind] at hb; simp at hb
  obtain ⟨comp, c, k, h1, h2, h3, ⟨comp2, h4⟩, h5⟩ := key
  obtain ⟨k', hk', he⟩ := hvm.2.2 _ _ h3
  have hi : (U.vm.classes.findIdx? fun (x : Class) => match x.kind with | .array component _ => component == comp | _ => false) = some c := by
    have e1 := va_idx_bare U.vm comp
    have e2 := va_idx_bare u.vm comp
    have e3 : U.vm.bare = u.vm.bare := by first | exact hvm.bare_eq | exact hvm.bare_eq.symm
    rw [e3] at e1
    exact (e1.symm.trans e2).trans h2
  have hkind : k'.kind = .array comp2 (.array t) := by rw [he]; exact h4
  have f1 : U.vm.findClass (FieldType.array t).toString = some comp := by rw [hvm.findClass]; exact h1
  have f2 : U.vm.findClass ("[" ++ (FieldType.array t).toString) = some c := by rw [hvm.findClass]; exact h5
  unfold va_AOA Cond.before Cond.holds
  simp only [Cond.value]
  rw [f1, Option.bind_some]
  refine (congrArg (fun o : Option Nat => (o.bind (fun c => (U.vm.classes[c]?).map fun (k : Class) => match k.kind with | .array _ ty => decide (ty = FieldType.array t) && decide (U.vm.findClass ("[" ++ (FieldType.array t).toString) = some c) | _ => false) == some true)) hi).trans ?_
  simp [hk', hkind, f2]
def gIE (U : State) : Prop := (∀ w ∈ gNW, va_Nw w U) ∧ va_AO "CertifiedBooks$Procedure" U ∧ va_AO "CertifiedBooks$Request" U ∧ va_AO "CertifiedBooks$Entry" U ∧ va_AOA .long U
theorem gIE.warm {s U : State} (h : gIE s) (hW : s.WarmedH U.vm) : gIE U := ⟨fun w hw => gNW_warm hW w hw (h.1 w hw), h.2.1.moved hW.alike, h.2.2.1.moved hW.alike, h.2.2.2.1.moved hW.alike, h.2.2.2.2.moved hW.alike⟩
theorem va_RA_inj {U : State} {a b : ClassId} {ty : FieldType} (h1 : va_RA U a ty) (h2 : va_RA U b ty) : a = b := by
  cases ty with
  | object C =>
    obtain ⟨_, _, _, _, _, e1⟩ := h1
    obtain ⟨_, _, _, _, _, e2⟩ := h2
    exact Option.some.inj (e1.symm.trans e2)
  | _ => exact Option.some.inj (Eq.trans (Eq.symm (show U.vm.findClass _ = some a from h1)) h2)
def iPc (D : va_G) (cy : Nat → ClassId) (as : List Value) (ws : va_W) (sz : Nat) : Array Value → State → Prop := va_Pc as (fun U => U.heap.size = sz ∧ va_P D vwCl ws U.heap ∧ va_K D vwCl (gty cy) U ∧ va_D (fun _ => True) ws ∧ gIE U)
theorem iPc_blind {D : va_G} {cy : Nat → ClassId} {as : List Value} {ws : va_W} {sz : Nat} : FrameBlind (iPc D cy as ws sz) := fun a U g mk h =>
  ⟨h.1, h.2.1, h.2.2.1, va_K.moved (u := U) (U := U.calling g mk a) (Vm.Alike.refl U.vm) h.2.2.2.1, h.2.2.2.2.1, gIE.warm (s := U) (U := U.calling g mk a) h.2.2.2.2.2 (State.WarmedH.refl U)⟩
def iQ (D : va_G) (spec : va_W → Prop) (A : Nat → Prop) : Array Value → State → Outcome → State → Prop := va_Qv spec (fun u t => va_P D vwCl u t.heap ∧ va_D A u) A
def iM (l : Launch) (D : va_G) (cy : Nat → ClassId) (y : MethodName) (cc : ByteArray) (nL : Nat) (rm : Room) (as : List Value) (ws : va_W) (spec : va_W → Prop) : Prop :=
  ∀ sz : Nat, Met l y (Cond.code y cc nL none :: WS) rm (iPc D cy as ws sz) (iQ D spec (va_A ws sz)) rm.cells rm.slots (va_A ws sz)
def iC (p : Program) (s : State) (m : MethodId) (args : Array Value) (meth : Method) (c : Code) (cc : ByteArray) (nL : Nat) (own : String) (D : va_G) (cy : Nat → ClassId) (A : Nat → Prop) : Prop :=
  p.tables.exec = Jvm.exec ∧ c.code = cc ∧ c.maxLocals = nL ∧ s.vm.findClass own = some m.cls ∧ (∀ w ∈ WS, w.before args s = true) ∧ meth.locks = false ∧ va_K D vwCl (gty cy) s ∧ (∀ q : Nat, s.heap.size ≤ q → A q) ∧ gIE s
section IC
variable {p : Program} {s : State} {m : MethodId} {args : Array Value} {meth : Method} {c : Code} {cc : ByteArray} {nL : Nat} {own : String} {D : va_G} {cy : Nat → ClassId} {A : Nat → Prop}
theorem iC.hx (C : iC p s m args meth c cc nL own D cy A) : p.tables.exec = Jvm.exec := C.1
theorem iC.hb (C : iC p s m args meth c cc nL own D cy A) : c.code = cc := C.2.1
theorem iC.hml (C : iC p s m args meth c cc nL own D cy A) : c.maxLocals = nL := C.2.2.1
theorem iC.hown (C : iC p s m args meth c cc nL own D cy A) : s.vm.findClass own = some m.cls := C.2.2.2.1
theorem iC.hts (C : iC p s m args meth c cc nL own D cy A) : ∀ w ∈ WS, w.before args s = true := C.2.2.2.2.1
theorem iC.hlk (C : iC p s m args meth c cc nL own D cy A) : meth.locks = false := C.2.2.2.2.2.1
theorem iC.hK (C : iC p s m args meth c cc nL own D cy A) : va_K D vwCl (gty cy) s := C.2.2.2.2.2.2.1
theorem iC.hA (C : iC p s m args meth c cc nL own D cy A) : ∀ q : Nat, s.heap.size ≤ q → A q := C.2.2.2.2.2.2.2.1
theorem iC.hE (C : iC p s m args meth c cc nL own D cy A) : gIE s := C.2.2.2.2.2.2.2.2
end IC
theorem iM_of {l : Launch} {D : va_G} {cy : Nat → ClassId} {y : MethodName} {cc : ByteArray} {nL : Nat} {rm : Room} {as : List Value} {ws : va_W} {spec : va_W → Prop} (hy : plainName y.cls = true) (hcw : Cond.code y cc nL none ∈ WS) (hn : (lg_sl as).length ≤ nL) (hnm : y.name = "<init>")
    (body : ∀ (p : Program) (e : Env) (s : State) (m : MethodId) (below : List Frame) (meth : Method) (c : Code) (A : Nat → Prop) (ls : Array Slot), iC p s m as.toArray meth c cc nL y.cls D cy A → meth.name = "<init>" → meth.sig.returnType = none → va_P D vwCl ws s.heap → va_D A ws → va_S A s.heap s.heap [] → lv_has ls nL (lv_args 0 as) →
      W p l e rm s m as.toArray below meth c s.heap [] 0 0 (MQ below (iQ D spec A) as.toArray s rm.cells rm.slots A) (F0 m 0 ls [])) : iM l D cy y cc nL rm as ws spec := by
  intro sz
  refine Met.ofW (cc := cc) (maxL := nL) (ret := none) hy rfl ?_
  intro p e s m args below meth c s₁ B hml hv
  obtain ⟨rfl, hsz, hP, hK, hD, hE⟩ := hv
  subst hsz
  have hts : ∀ w ∈ WS, w.before as.toArray s = true := fun w hw => atoms_spec (ws := Cond.code y cc nL none :: WS) B.pre w (List.mem_cons_of_mem _ hw)
  have hl := lv_entry as (n := nL) hn
  rw [lg_entry_eq]
  generalize (lg_sl as ++ List.replicate (nL - (lg_sl as).length) Slot.unset).toArray = ls at hl ⊢
  exact body p e s m below meth c (va_A ws s.heap.size) ls ⟨B.exec, B.bytes, hml, findClass_of_methodNamed B.named, hts, B.notSynchronized, hK, fun q h => Or.inr h, hE⟩ ((name_of_methodNamed B.named B.method).1.trans hnm) B.returns hP hD.self va_S.rf hl
theorem i_join {A0 : Nat → Prop} {D : va_G} {cl : List vw_C} {W0 w1 : va_W} {b : Nat} {e0 : va_E} {H H1 : Heap} (hP : va_P D cl (W0 ++ [(b, e0)]) H) (hD : va_D A0 (W0 ++ [(b, e0)])) (hk : ∀ q : Nat, q < H.size → ¬ va_A [(b, e0)] H.size q → H1[q]? = H[q]?) (hF : ∀ q, va_A [(b, e0)] H.size q → A0 q) (hP1 : va_P D cl w1 H1) (hD1 : va_D (va_A [(b, e0)] H.size) w1) : va_P D cl (W0 ++ w1) H1 ∧ va_D A0 (W0 ++ w1) := by
  have hl : ∀ (k : Nat) (x : Nat × va_E), W0[k]? = some x → (W0 ++ [(b, e0)])[k]? = some x := fun k x hx => by
    rw [List.getElem?_append_left ((List.getElem?_eq_some_iff.mp hx).1)]; exact hx
  have hb : (W0 ++ [(b, e0)])[W0.length]? = some (b, e0) := by simp
  have ap : ∀ (k : Nat) (x : Nat × va_E), W0[k]? = some x → x.1 < H.size ∧ ¬ va_A [(b, e0)] H.size x.1 := fun k x hx => by
    have h1 := (hP k x (hl k x hx)).lt
    refine ⟨h1, fun h => ?_⟩
    rcases h with ⟨j, e, h⟩ | h
    · have hj : j < 1 := (List.getElem?_eq_some_iff.mp h).1
      rw [show j = 0 by omega] at h
      have hxb : x.1 = b := by
        have := Option.some.inj h
        exact (congrArg Prod.fst this).symm
      have := hD.1 k W0.length x (b, e0) (hl k x hx) hb hxb
      have := (List.getElem?_eq_some_iff.mp hx).1
      omega
    · omega
  refine ⟨va_P.app (fun k x hx => ?_) hP1, va_D.app ⟨fun i j x y hi hj e => hD.1 i j x y (hl i x hi) (hl j y hj) e, fun k x hx => hD.2 k x (hl k x hx)⟩ (hD1.weaken (fun k x hx h => hF _ h)) (fun i j x y hi hj e => ?_)⟩
  · exact (va_P.kept (ws := W0) (H := H) (fun k x hx => hP k x (hl k x hx)) (fun k x hx => hk x.1 (ap k x hx).1 (ap k x hx).2)) k x hx
  · exact (ap i x hi).2 (by rw [e]; exact hD1.2 j y hj)
section IR
variable {p : Program} {l : Launch} {e : Env} {R : Room} {s : State} {m : MethodId} {args : Array Value} {below : List Frame} {meth : Method} {c : Code} {H : Heap} {locs : List Loc} {cells slots : Nat} {Q : State → Prop}
variable {cc : ByteArray} {nL : Nat} {own : String} {D : va_G} {cy : Nat → ClassId} {A : Nat → Prop} {pc : Nat} {ls : Array Slot} {rest : List Value} {ws : va_W}
theorem i_obj (C : iC p s m args meth c cc nL own D cy A) {index b : Nat} (hlk : Cond.methodLink own index objectInit ∈ WS) (hls : ls.size = nL) (hR : 1 ≤ R.frames ∧ 40 ≤ R.locals) (hcat : (rest.map fun v => v.category).sum ≤ 8) (hdg : decode cc pc = .ok (.invokespecial index, 3))
    (kk : W p l e R s m args below meth c H locs cells slots Q (F0 m (pc + 3) ls rest)) : W p l e R s m args below meth c H locs cells slots Q (F0 m pc ls (.ref b :: rest)) := by
  have hm0 : (F0 m pc ls (.ref b :: rest)).monitorRoom = 0 := rfl
  refine W.objInit C.hx C.hb C.hown (C.hts _ hlk) (C.hts _ ki_objInit) (C.hts _ kc_objInit) rfl (by rw [C.hml]; exact hls) rfl hdg ?_ ?_ ?_
  all_goals first | exact W.eq (g2 := F0 m (pc + 3) ls rest) rfl kk | (simp only [F0]; omega) | omega
theorem i_newa (C : iC p s m args meth c cc nL own D cy A) (hP : va_P D vwCl ws H) (hD : va_D A ws) (hS : va_S A s.heap H locs) {atype : ArrayType} {ty : FieldType} (hty : newarray.typeOf atype = ty) (t : Nat) (ht : (gty cy)[t]? = some (cy t, ty)) (harr : Cond.arrayClass (newarray.typeOf atype) ∈ WS)
    {n : Int32} {N' : Nat} {a0 : vp_A} (ha : ∀ cA : ClassId, vp_cell cA a0 = arrV cA N' (fun _ => defaultValue ty)) (hn : ¬ n < 0) (hN : n.toNatClampNeg = N') (hbytes : N' * componentBytes ty ≤ 536870912) (hcells : cells + 1 ≤ R.cells) (hslots : slots + N' ≤ R.slots) (hdg : decode cc pc = .ok (.newarray atype, 2))
    (kk : ∀ (q : Nat) (H1 : Heap), va_P D vwCl (ws ++ [(q, .inl (cy t, a0))]) H1 → va_D A (ws ++ [(q, .inl (cy t, a0))]) → va_S A s.heap H1 locs →
      W p l e R s m args below meth c H1 locs (cells + 1) (slots + N') Q (F0 m (pc + 2) ls (.ref q :: rest))) : W p l e R s m args below meth c H locs cells slots Q (F0 m pc ls (.int n :: rest)) := by
  refine va_newa C.hx C.hb (C.hts _ harr) hty C.hK hP hD hS C.hA ha hn hN hbytes hcells hslots hdg (fun q cA H1 hK1 hP1 hD1 hS1 => ?_)
  have e1 := (hK1.2 (gty cy).length (cA, ty) (by simp)).2
  have e2 := (C.hK.2 t _ ht).2
  have e3 : cA = cy t := va_RA_inj e1 e2
  subst e3
  exact kk q H1 hP1 hD1 hS1
theorem i_newq (C : iC p s m args meth c cc nL own D cy A) (hP : va_P D vwCl ws H) (hD : va_D A ws) (hS : va_S A s.heap H locs) {CN : String} {index : Nat} (t : Nat) (ht : (gty cy)[t]? = some (cy t, .object CN)) (hcl : Cond.classLink own index CN ∈ WS) (hover : va_AO CN s)
    {n : Int32} {N' : Nat} (hn : ¬ n < 0) (hN : n.toNatClampNeg = N') (hbytes : N' * 4 ≤ 536870912) (hcells : cells + 1 ≤ R.cells) (hslots : slots + N' ≤ R.slots) (hdg : decode cc pc = .ok (.anewarray index, 3))
    (kk : ∀ (q : Nat) (H1 : Heap), va_P D vwCl (ws ++ [(q, .inl (cy t, N', .inr (.inr (.inr (.inr (fun _ => none))))))]) H1 → va_D A (ws ++ [(q, .inl (cy t, N', .inr (.inr (.inr (.inr (fun _ => none))))))]) → va_S A s.heap H1 locs →
      W p l e R s m args below meth c H1 locs (cells + 1) (slots + N') Q (F0 m (pc + 3) ls (.ref q :: rest))) : W p l e R s m args below meth c H locs cells slots Q (F0 m pc ls (.int n :: rest)) := by
  refine va_newq C.hx C.hb C.hown (C.hts _ hcl) hover C.hK hP hD hS C.hA hn hN hbytes hcells hslots hdg (fun q cA H1 hK1 hP1 hD1 hS1 => ?_)
  have e1 := (hK1.2 (gty cy).length (cA, .object CN) (by simp)).2
  have e2 := (C.hK.2 t _ ht).2
  have e3 : cA = cy t := va_RA_inj e1 e2
  subst e3
  exact kk q H1 hP1 hD1 hS1
theorem i_mna (C : iC p s m args meth c cc nL own D cy A) (hP : va_P D vwCl ws H) (hD : va_D A ws) (hS : va_S A s.heap H locs) {index : Nat} (hcl : Cond.classLink own index "[[J" ∈ WS)
    (hcells : cells + 42 ≤ R.cells) (hslots : slots + 369 ≤ R.slots) (hdg : decode cc pc = .ok (.multianewarray index 2, 4))
    (kk : ∀ (q : Nat) (r : Nat → Nat) (H1 : Heap), va_P D vwCl ((ws ++ [(q, .inl (cy 6, 41, .inr (.inr (.inr (.inr (fun i => if i < 41 then some (r i) else none))))))]) ++ (List.range 41).map (fun i => (r i, eL cy 8 (fun _ => 0)))) H1 → va_D A ((ws ++ [(q, .inl (cy 6, 41, .inr (.inr (.inr (.inr (fun i => if i < 41 then some (r i) else none))))))]) ++ (List.range 41).map (fun i => (r i, eL cy 8 (fun _ => 0)))) → va_S A s.heap H1 locs →
      W p l e R s m args below meth c H1 locs (cells + 1 + 41) (slots + 41 + 41 * 8) Q (F0 m (pc + 4) ls (.ref q :: rest))) : W p l e R s m args below meth c H locs cells slots Q (F0 m pc ls (.int 8 :: .int 41 :: rest)) := by
  refine va_mna (X := ws) (L := []) (f := fun _ => eL cy 8 (fun _ => 0)) (ty := .long) (cy := cy 0) (N' := 41) (K' := 8) (z := (8, .inr (.inl (fun _ => 0)))) C.hx C.hb C.hown (C.hts _ hcl) C.hE.2.2.2.2 (C.hts _ kac_long) (C.hK.2 0 _ rfl).2 C.hK (by rw [show va_pl [] _ = [] from rfl, List.append_nil]; exact hP) (by rw [show va_pl [] _ = [] from rfl, List.append_nil]; exact hD) hS C.hA (by decide) (by decide) (by decide) (by decide) (by decide) (by decide) (by decide) rfl rfl (by omega) (by omega) (fun c => by rw [vp_cell_l]; rfl) hdg (fun q r cA H1 hr hrL hK1 hP1 hD1 hS1 => ?_)
  have e1 := (hK1.2 (gty cy).length (cA, .array .long) (by simp)).2
  have e2 := (C.hK.2 6 _ rfl).2
  have e3 : cA = cy 6 := va_RA_inj e1 e2
  subst e3
  have e4 : va_pl ([] ++ (List.range 41).map r) (vr_up (fun _ => eL cy 8 (fun _ => 0)) ((List.range 41).map r) (.inl (cy 0, 8, .inr (.inl (fun _ => 0))))) = (List.range 41).map (fun i => (r i, eL cy 8 (fun _ => 0))) := by
    unfold va_pl
    rw [List.nil_append, List.map_map]
    apply List.map_congr_left
    intro i hi
    show (r i, vr_up _ _ _ (r i)) = _
    rw [vr_up_in (List.mem_map.mpr ⟨i, hi, rfl⟩)]
  rw [e4] at hP1 hD1
  exact kk q r H1 hP1 hD1 hS1
theorem i_new (C : iC p s m args meth c cc nL own D cy A) (hP : va_P D vwCl ws H) (hD : va_D A ws) (hS : va_S A s.heap H locs) {CN : String} {T : u_T} {N ci index : Nat} (hin : ∀ w ∈ u_ws CN T N, w ∈ WS) (ty : Nat → FieldType) (hty : ∀ k, k < N → parseFieldDescriptor (T k).2.2.1 = some (ty k)) (hcl : Cond.classLink own index CN ∈ WS) (hinst : Cond.instantiable CN N ∈ WS) (hini : Cond.initialized CN ∈ WS) (hc : vwCl[ci]? = some (CN, T, N)) {fs : List Value} (hfs : ∀ j, j < N → defaultValue (ty j) = vp_V fs j) (hcells : cells + 1 ≤ R.cells) (hslots : slots + N ≤ R.slots) (hdg : decode cc pc = .ok (.new index, 3))
    (kk : ∀ (q : Nat) (H1 : Heap), va_P D vwCl (ws ++ [(q, .inr (ci, fs))]) H1 → va_D A (ws ++ [(q, .inr (ci, fs))]) → va_S A s.heap H1 locs →
      W p l e R s m args below meth c H1 locs (cells + 1) (slots + N) Q (F0 m (pc + 3) ls (.ref q :: rest))) : W p l e R s m args below meth c H locs cells slots Q (F0 m pc ls rest) :=
  va_new C.hx C.hb C.hts hin ty hty C.hown (C.hts _ hcl) (C.hts _ hinst) (C.hts _ hini) C.hK hP hD hS C.hA hc hfs hcells hslots hdg kk
theorem i_callN (C : iC p s m args meth c cc nL own D cy A) {b : Nat} {e0 : va_E} (hP : va_P D vwCl (ws ++ [(b, e0)]) H) (hD : va_D A (ws ++ [(b, e0)])) (hS : va_S A s.heap H locs) (hls : ls.size = nL) {y : MethodName} {bytes : ByteArray} {maxL index : Nat} {rm : Room} {spec : va_W → Prop} (hM : iM l D cy y bytes maxL rm [.ref b] [(b, e0)] spec) (hF : gF y bytes maxL none 0) (hnm : y.name = "<init>") {host : String} (hlk : Cond.methodLinkNest own index y host ∈ gNW) (hin : Cond.instanceMethod y ∈ WS)
    (hR : rm.frames + 1 ≤ R.frames ∧ 8 + (maxL + 11) + rm.locals ≤ R.locals) (hcat : (rest.map fun v => v.category).sum ≤ 8) (hf : cells + rm.cells ≤ R.cells ∧ slots + rm.slots ≤ R.slots) (hdg : decode cc pc = .ok (.invokespecial index, 3))
    (kk : ∀ (w1 : va_W) (H1 : Heap) (locs1 : List Loc), spec w1 → va_P D vwCl (ws ++ w1) H1 → va_D A (ws ++ w1) → va_S A s.heap H1 locs1 → W p l e R s m args below meth c H1 locs1 (cells + rm.cells) (slots + rm.slots) Q (F0 m (pc + 3) ls rest)) : W p l e R s m args below meth c H locs cells slots Q (F0 m pc ls (.ref b :: rest)) := by
  have hbk : (ws ++ [(b, e0)])[ws.length]? = some (b, e0) := by simp
  have hPb : va_P D vwCl [(b, e0)] H := fun k x hx => by
    have h0 : k < 1 := (List.getElem?_eq_some_iff.mp hx).1
    rw [show k = 0 by omega] at hx
    rw [← Option.some.inj hx]
    exact hP _ _ hbk
  have hDb : va_D A [(b, e0)] := ⟨fun i j x y hi hj _ => by
    have h0 : i < 1 := (List.getElem?_eq_some_iff.mp hi).1
    have h1 : j < 1 := (List.getElem?_eq_some_iff.mp hj).1
    omega, fun k x hx => by
    have h0 : k < 1 := (List.getElem?_eq_some_iff.mp hx).1
    rw [show k = 0 by omega] at hx
    rw [← Option.some.inj hx]
    exact hD.2 _ _ hbk⟩
  have hFr : ∀ q, va_A [(b, e0)] H.size q → A q := fun q h => by
    rcases h with ⟨k, e, h⟩ | h
    · exact hDb.2 k _ h
    · exact C.hA q (Nat.le_trans hS.1 h)
  exact va_callv (va_runIN (As := []) (rest := rest) ⟨C.hx, C.hb, C.hml, C.hown, C.hts⟩ (hM H.size) ⟨⟨⟨rfl, rfl, hR.1, hR.2, gpay C.hts hF.1, List.mem_cons_self⟩, C.hts _ hF.1, C.hts _ hF.2.1, hF.2.2.1, fun sig h => by have h2 := hF.2.2.2; rw [h] at h2; exact (Option.some.inj h2).symm, va_Nw.use rfl (C.hE.1 _ hlk)⟩, hnm, C.hts _ hin⟩ ⟨iPc_blind, fun U hU hW => ⟨rfl, by rw [hU], by rw [hU]; exact hPb, va_K.moved hW.alike C.hK, hDb.weaken (fun _ _ _ _ => trivial), C.hE.warm hW⟩⟩ rfl rfl hls rfl (lv_room hcat) hdg hf) hS (fun q _ h => hFr q h) hFr
    (fun u t H1 locs1 ht hvm hsp hB hz1 hk1 hS1 => by
      obtain ⟨hP1, hD1⟩ := hB
      rw [ht] at hP1
      obtain ⟨hP2, hD2⟩ := i_join hP hD hk1 hFr hP1 hD1
      exact kk u H1 locs1 hsp hP2 hD2 hS1)
theorem i_callI (C : iC p s m args meth c cc nL own D cy A) {b : Nat} {e0 : va_E} (hP : va_P D vwCl (ws ++ [(b, e0)]) H) (hD : va_D A (ws ++ [(b, e0)])) (hS : va_S A s.heap H locs) (hls : ls.size = nL) {y : MethodName} {bytes : ByteArray} {maxL index : Nat} {rm : Room} {spec : va_W → Prop} (hM : iM l D cy y bytes maxL rm [.ref b] [(b, e0)] spec) (hF : gF y bytes maxL none 0) (hnm : y.name = "<init>") (hlk : Cond.methodLink own index y ∈ WS) (hin : Cond.instanceMethod y ∈ WS)
    (hR : rm.frames + 1 ≤ R.frames ∧ 8 + (maxL + 11) + rm.locals ≤ R.locals) (hcat : (rest.map fun v => v.category).sum ≤ 8) (hf : cells + rm.cells ≤ R.cells ∧ slots + rm.slots ≤ R.slots) (hdg : decode cc pc = .ok (.invokespecial index, 3))
    (kk : ∀ (w1 : va_W) (H1 : Heap) (locs1 : List Loc), spec w1 → va_P D vwCl (ws ++ w1) H1 → va_D A (ws ++ w1) → va_S A s.heap H1 locs1 → W p l e R s m args below meth c H1 locs1 (cells + rm.cells) (slots + rm.slots) Q (F0 m (pc + 3) ls rest)) : W p l e R s m args below meth c H locs cells slots Q (F0 m pc ls (.ref b :: rest)) := by
  have hbk : (ws ++ [(b, e0)])[ws.length]? = some (b, e0) := by simp
  have hPb : va_P D vwCl [(b, e0)] H := fun k x hx => by
    have h0 : k < 1 := (List.getElem?_eq_some_iff.mp hx).1
    rw [show k = 0 by omega] at hx
    rw [← Option.some.inj hx]
    exact hP _ _ hbk
  have hDb : va_D A [(b, e0)] := ⟨fun i j x y hi hj _ => by
    have h0 : i < 1 := (List.getElem?_eq_some_iff.mp hi).1
    have h1 : j < 1 := (List.getElem?_eq_some_iff.mp hj).1
    omega, fun k x hx => by
    have h0 : k < 1 := (List.getElem?_eq_some_iff.mp hx).1
    rw [show k = 0 by omega] at hx
    rw [← Option.some.inj hx]
    exact hD.2 _ _ hbk⟩
  have hFr : ∀ q, va_A [(b, e0)] H.size q → A q := fun q h => by
    rcases h with ⟨k, e, h⟩ | h
    · exact hDb.2 k _ h
    · exact C.hA q (Nat.le_trans hS.1 h)
  exact va_callv (va_runI (As := []) (rest := rest) ⟨C.hx, C.hb, C.hml, C.hown, C.hts⟩ (hM H.size) ⟨⟨rfl, rfl, hR.1, hR.2, gpay C.hts hF.1, List.mem_cons_self, C.hts _ hF.1, C.hts _ hF.2.1, hF.2.2.1, fun sig h => by have h2 := hF.2.2.2; rw [h] at h2; exact (Option.some.inj h2).symm, C.hts _ hlk⟩, hnm, C.hts _ hin⟩ ⟨iPc_blind, fun U hU hW => ⟨rfl, by rw [hU], by rw [hU]; exact hPb, va_K.moved hW.alike C.hK, hDb.weaken (fun _ _ _ _ => trivial), C.hE.warm hW⟩⟩ rfl rfl hls rfl (lv_room hcat) hdg hf) hS (fun q _ h => hFr q h) hFr
    (fun u t H1 locs1 ht hvm hsp hB hz1 hk1 hS1 => by
      obtain ⟨hP1, hD1⟩ := hB
      rw [ht] at hP1
      obtain ⟨hP2, hD2⟩ := i_join hP hD hk1 hFr hP1 hD1
      exact kk u H1 locs1 hsp hP2 hD2 hS1)
theorem i_ret (C : iC p s m args meth c cc nL own D cy A) {spec : va_W → Prop} {mc ms : Nat} (hr : meth.sig.returnType = none) (hP : va_P D vwCl ws H) (hD : va_D A ws) (hS : va_S A s.heap H locs) (hc : cells ≤ mc) (hs : slots ≤ ms) (hdg : decode cc pc = .ok (.return_, 1)) (hq : spec ws) : W p l e R s m args below meth c H locs cells slots (MQ below (iQ D spec A) args s mc ms A) (F0 m pc ls []) := by
  refine W.widen hc hs ?_
  exact W.vret (free := A) C.hx C.hb hr (fun t ht hW => (show iQ D spec A args s (.returned none) t from ⟨⟨ws, rfl, hq, by rw [ht]; exact hP, hD⟩, hS.F ht⟩)) hS.2.2 hdg C.hlk
end IR
