abbrev gXN : List String := ["java/lang/RuntimeException", "java/lang/Exception"]
theorem gat_65 : ∀ w ∈ (vx_atS RX3 65 xIS gXN).filter goodWord, w ∈ WS := fun w h => mws ((show ∀ w ∈ (vx_atS RX3 65 xIS gXN).filter goodWord, w ∈ lw_tbl by decide +kernel) w h) (List.mem_filter.mp h).2
theorem gan_65 : ∀ w ∈ (vx_atS RX3 65 xIS gXN).filter (fun w => !goodWord w), w ∈ gNX := by decide +kernel
theorem gao_65 : (vx_atS RX3 65 xIS gXN).all vx_ot = true := by decide +kernel
theorem gat_83 : ∀ w ∈ (vx_atS RX3 83 xIA gXN).filter goodWord, w ∈ WS := fun w h => mws ((show ∀ w ∈ (vx_atS RX3 83 xIA gXN).filter goodWord, w ∈ lw_tbl by decide +kernel) w h) (List.mem_filter.mp h).2
theorem gan_83 : ∀ w ∈ (vx_atS RX3 83 xIA gXN).filter (fun w => !goodWord w), w ∈ gNX := by decide +kernel
theorem gao_83 : (vx_atS RX3 83 xIA gXN).all vx_ot = true := by decide +kernel
theorem gat_198 : ∀ w ∈ (vx_atS RX3 198 xIO gXN).filter goodWord, w ∈ WS := fun w h => mws ((show ∀ w ∈ (vx_atS RX3 198 xIO gXN).filter goodWord, w ∈ lw_tbl by decide +kernel) w h) (List.mem_filter.mp h).2
theorem gan_198 : ∀ w ∈ (vx_atS RX3 198 xIO gXN).filter (fun w => !goodWord w), w ∈ gNX := by decide +kernel
theorem gao_198 : (vx_atS RX3 198 xIO gXN).all vx_ot = true := by decide +kernel
theorem gat_112 : ∀ w ∈ (vx_atS RX3 112 xUO gXN).filter goodWord, w ∈ WS := fun w h => mws ((show ∀ w ∈ (vx_atS RX3 112 xUO gXN).filter goodWord, w ∈ lw_tbl by decide +kernel) w h) (List.mem_filter.mp h).2
theorem gan_112 : ∀ w ∈ (vx_atS RX3 112 xUO gXN).filter (fun w => !goodWord w), w ∈ gNX := by decide +kernel
theorem gao_112 : (vx_atS RX3 112 xUO gXN).all vx_ot = true := by decide +kernel
/-! rows over the one world -/
section RW
variable {p : Program} {l : Launch} {e : Env} {R : Room} {s : State} {m : MethodId} {args : Array Value} {below : List Frame} {meth : Method} {c : Code} {H : Heap} {locs : List Loc} {cells slots : Nat} {Q : State → Prop}
variable {cc : ByteArray} {nL : Nat} {own : String} {D : va_G} {cy : Nat → ClassId} {ad : Nat → Nat} {A : Nat → Prop} {I : MI} {L : ML} {pc : Nat} {ls : Array Slot} {rest : List Value}
theorem gw_k {k : Nat} {e0 : va_E} (hk : k < 154) (h : kct cy ad k (I k) (L k) = e0) : (gw cy ad I L)[k]? = some (ad k, e0) := by rw [gw_at _ _ _ _ hk, h]
theorem nI_ix {i : Int32} {j n : Nat} (hi : i = nI j) (hj : j < n) (hn : n ≤ 100) : vp_in i n ∧ i.toNatClampNeg = j := by
  subst hi
  exact ⟨vp_in_nI hj (by omega), nI_clamp (by omega)⟩
theorem g_iald (C : gC p s m args meth c cc nL own D cy ad A) (hP : gP D cy ad I L H) (k n : Nat) (hk : k < 154) (hc : ∀ f g, kct cy ad k f g = eI cy n f) {i : Int32} (j : Nat) (hi : i = nI j) {v : Int32} (hv : I k j = v) (hj : j < n) (hn : n ≤ 100) (hdg : decode cc pc = .ok (.iaload, 1))
    (kk : W p l e R s m args below meth c H locs cells slots Q (F0 m (pc + 1) ls (.int v :: rest))) : W p l e R s m args below meth c H locs cells slots Q (F0 m pc ls (.int i :: .ref (ad k) :: rest)) := by
  subst hv
  obtain ⟨h1, h2⟩ := nI_ix hi hj hn
  refine va_iald (D := D) (cl := vwCl) (f := I k) (n := n) C.hx C.hb C.hK hP k 1 (gw_k hk (hc _ _)) rfl h1 hdg ?_
  rw [h2]
  exact kk
theorem g_zald (C : gC p s m args meth c cc nL own D cy ad A) (hP : gP D cy ad I L H) (k n : Nat) (hk : k < 154) (hc : ∀ f g, kct cy ad k f g = eZ cy n f) {i : Int32} (j : Nat) (hi : i = nI j) {v : Int32} (hv : I k j = v) (hj : j < n) (hn : n ≤ 100) (hdg : decode cc pc = .ok (.baload, 1))
    (kk : W p l e R s m args below meth c H locs cells slots Q (F0 m (pc + 1) ls (.int v :: rest))) : W p l e R s m args below meth c H locs cells slots Q (F0 m pc ls (.int i :: .ref (ad k) :: rest)) := by
  subst hv
  obtain ⟨h1, h2⟩ := nI_ix hi hj hn
  refine va_zald (D := D) (cl := vwCl) (f := I k) (n := n) C.hx C.hb C.hK hP k 2 (gw_k hk (hc _ _)) rfl h1 hdg ?_
  rw [h2]
  exact kk
theorem g_lald (C : gC p s m args meth c cc nL own D cy ad A) (hP : gP D cy ad I L H) (k n : Nat) (hk : k < 154) (hc : ∀ f g, kct cy ad k f g = eL cy n g) {i : Int32} (j : Nat) (hi : i = nI j) {v : Int64} (hv : L k j = v) (hj : j < n) (hn : n ≤ 100) (hdg : decode cc pc = .ok (.laload, 1))
    (kk : W p l e R s m args below meth c H locs cells slots Q (F0 m (pc + 1) ls (.long v :: rest))) : W p l e R s m args below meth c H locs cells slots Q (F0 m pc ls (.int i :: .ref (ad k) :: rest)) := by
  subst hv
  obtain ⟨h1, h2⟩ := nI_ix hi hj hn
  refine va_lald (D := D) (cl := vwCl) (f := L k) (n := n) C.hx C.hb C.hK hP k 0 (gw_k hk (hc _ _)) rfl h1 hdg ?_
  rw [h2]
  exact kk
theorem g_aldP (C : gC p s m args meth c cc nL own D cy ad A) (hP : gP D cy ad I L H) {i : Int32} (j : Nat) (hi : i = nI j) (hj : j < 10) (hdg : decode cc pc = .ok (.aaload, 1))
    (kk : W p l e R s m args below meth c H locs cells slots Q (F0 m (pc + 1) ls (.ref (ad (95 + 4 * j)) :: rest))) : W p l e R s m args below meth c H locs cells slots Q (F0 m pc ls (.int i :: .ref (ad 3) :: rest)) := by
  obtain ⟨h1, h2⟩ := nI_ix hi hj (by omega)
  refine va_aldq (D := D) (cl := vwCl) (C := "CertifiedBooks$Procedure") (f := fun j => if j < 10 then some (ad (95 + 4 * j)) else none) (n := 10) C.hx C.hb C.hK hP 3 3 (gw_k (by omega) rfl) rfl h1 hdg ?_
  rw [h2]
  simp only [if_pos hj, va_rf]
  exact kk
theorem g_aldQ (C : gC p s m args meth c cc nL own D cy ad A) (hP : gP D cy ad I L H) {i : Int32} (j : Nat) (hi : i = nI j) (hj : j < 6) (hdg : decode cc pc = .ok (.aaload, 1))
    (kk : W p l e R s m args below meth c H locs cells slots Q (F0 m (pc + 1) ls (.ref (ad (8 + j)) :: rest))) : W p l e R s m args below meth c H locs cells slots Q (F0 m pc ls (.int i :: .ref (ad 4) :: rest)) := by
  obtain ⟨h1, h2⟩ := nI_ix hi hj (by omega)
  refine va_aldq (D := D) (cl := vwCl) (C := "CertifiedBooks$Request") (f := fun j => if j < 6 then some (ad (8 + 1 * j)) else none) (n := 6) C.hx C.hb C.hK hP 4 4 (gw_k (by omega) rfl) rfl h1 hdg ?_
  rw [h2]
  simp only [if_pos hj, va_rf, Nat.one_mul]
  exact kk
theorem g_aldE (C : gC p s m args meth c cc nL own D cy ad A) (hP : gP D cy ad I L H) {i : Int32} (j : Nat) (hi : i = nI j) (hj : j < 40) (hdg : decode cc pc = .ok (.aaload, 1))
    (kk : W p l e R s m args below meth c H locs cells slots Q (F0 m (pc + 1) ls (.ref (ad (14 + j)) :: rest))) : W p l e R s m args below meth c H locs cells slots Q (F0 m pc ls (.int i :: .ref (ad 5) :: rest)) := by
  obtain ⟨h1, h2⟩ := nI_ix hi hj (by omega)
  refine va_aldq (D := D) (cl := vwCl) (C := "CertifiedBooks$Entry") (f := fun j => if j < 40 then some (ad (14 + 1 * j)) else none) (n := 40) C.hx C.hb C.hK hP 5 5 (gw_k (by omega) rfl) rfl h1 hdg ?_
  rw [h2]
  simp only [if_pos hj, va_rf, Nat.one_mul]
  exact kk
theorem va_aldA {tys : List (ClassId × FieldType)} {cl : List vw_C} {ws : va_W} {a : Nat} (hexec : p.tables.exec = Jvm.exec) (hb : c.code = cc) (hK : va_K D cl tys s) (hP : va_P D cl ws H) (q0 t0 : Nat) {cA : ClassId} {ty : FieldType} {n : Nat} {f : Nat → Option Nat} (ha : ws[q0]? = some (a, .inl (cA, n, .inr (.inr (.inr (.inr f)))))) (ht : tys[t0]? = some (cA, .array ty)) {i : Int32} (hin : vp_in i n) (hdg : decode cc pc = .ok (.aaload, 1))
    (kk : W p l e R s m args below meth c H locs cells slots Q (F0 m (pc + 1) ls (va_rf (f i.toNatClampNeg) :: rest))) : W p l e R s m args below meth c H locs cells slots Q (F0 m pc ls (.int i :: .ref a :: rest)) := by
  have hlt : i.toNatClampNeg < n := Nat.not_le.mp fun q => hin (Or.inr q)
  exact W.aald (v := va_rf (f i.toNatClampNeg)) (ty := .array ty) hexec hb (hP q0 _ ha) ((hK.2 t0 _ ht).1 n (fun j => va_rf (f j))) rfl (fun q => by cases q) (by show ¬ (i < 0 ∨ (arrV _ _ _).slots.size ≤ _); rw [arrV_size]; exact hin) (by show (arrV _ _ _).slots[_]? = _; rw [arrV_read _ _ hlt]) rfl rfl hdg kk
theorem g_aldT (C : gC p s m args meth c cc nL own D cy ad A) (hP : gP D cy ad I L H) {i : Int32} (j : Nat) (hi : i = nI j) (hj : j < 41) (hdg : decode cc pc = .ok (.aaload, 1))
    (kk : W p l e R s m args below meth c H locs cells slots Q (F0 m (pc + 1) ls (.ref (ad (54 + j)) :: rest))) : W p l e R s m args below meth c H locs cells slots Q (F0 m pc ls (.int i :: .ref (ad 6) :: rest)) := by
  obtain ⟨h1, h2⟩ := nI_ix hi hj (by omega)
  refine va_aldA (D := D) (cl := vwCl) (ty := .long) (f := fun j => if j < 41 then some (ad (54 + 1 * j)) else none) (n := 41) C.hx C.hb C.hK hP 6 6 (gw_k (by omega) rfl) rfl h1 hdg ?_
  rw [h2]
  simp only [if_pos hj, va_rf, Nat.one_mul]
  exact kk
theorem g_iast (C : gC p s m args meth c cc nL own D cy ad A) (hP : gP D cy ad I L H) (hS : va_S A s.heap H locs) (k n : Nat) (hk : k < 154) (hc : ∀ f g, kct cy ad k f g = eI cy n f) {i : Int32} {x : Int32} (j : Nat) (hi : i = nI j) (hj : j < n) (hn : n ≤ 100) (hdg : decode cc pc = .ok (.iastore, 1))
    (kk : ∀ (H1 : Heap) (locs1 : List Loc), gP D cy ad (sI I k j x) (L) H1 → va_S A s.heap H1 locs1 → W p l e R s m args below meth c H1 locs1 cells slots Q (F0 m (pc + 1) ls rest)) : W p l e R s m args below meth c H locs cells slots Q (F0 m pc ls (.int x :: .int i :: .ref (ad k) :: rest)) := by
  obtain ⟨h1, h2⟩ := nI_ix hi hj hn
  refine va_iast (D := D) (cl := vwCl) (f := I k) (n := n) C.hx C.hb C.hK hP (C.hD.va I L) hS k 1 (gw_k hk (hc _ _)) rfl h1 hdg (fun H1 locs1 hP1 _ hS1 => kk H1 locs1 ?_ hS1)
  rw [h2, gw_set (I' := sI I k j x) (L' := L) hk (by rw [hc]; simp only [sI, sL, va_up_self]) (fun a h => by first | rfl | exact sI_row h) (fun a h => by first | rfl | exact sL_row h)] at hP1
  exact hP1
theorem g_last (C : gC p s m args meth c cc nL own D cy ad A) (hP : gP D cy ad I L H) (hS : va_S A s.heap H locs) (k n : Nat) (hk : k < 154) (hc : ∀ f g, kct cy ad k f g = eL cy n g) {i : Int32} {x : Int64} (j : Nat) (hi : i = nI j) (hj : j < n) (hn : n ≤ 100) (hdg : decode cc pc = .ok (.lastore, 1))
    (kk : ∀ (H1 : Heap) (locs1 : List Loc), gP D cy ad (I) (sL L k j x) H1 → va_S A s.heap H1 locs1 → W p l e R s m args below meth c H1 locs1 cells slots Q (F0 m (pc + 1) ls rest)) : W p l e R s m args below meth c H locs cells slots Q (F0 m pc ls (.long x :: .int i :: .ref (ad k) :: rest)) := by
  obtain ⟨h1, h2⟩ := nI_ix hi hj hn
  refine va_last (D := D) (cl := vwCl) (f := L k) (n := n) C.hx C.hb C.hK hP (C.hD.va I L) hS k 0 (gw_k hk (hc _ _)) rfl h1 hdg (fun H1 locs1 hP1 _ hS1 => kk H1 locs1 ?_ hS1)
  rw [h2, gw_set (I' := I) (L' := sL L k j x) hk (by rw [hc]; simp only [sI, sL, va_up_self]) (fun a h => by first | rfl | exact sI_row h) (fun a h => by first | rfl | exact sL_row h)] at hP1
  exact hP1
theorem g_zast (C : gC p s m args meth c cc nL own D cy ad A) (hP : gP D cy ad I L H) (hS : va_S A s.heap H locs) (k n : Nat) (hk : k < 154) (hc : ∀ f g, kct cy ad k f g = eZ cy n f) {i : Int32} {x : Int32} (hz : vp_nar .boolean x = x) (j : Nat) (hi : i = nI j) (hj : j < n) (hn : n ≤ 100) (hdg : decode cc pc = .ok (.bastore, 1))
    (kk : ∀ (H1 : Heap) (locs1 : List Loc), gP D cy ad (sI I k j x) L H1 → va_S A s.heap H1 locs1 → W p l e R s m args below meth c H1 locs1 cells slots Q (F0 m (pc + 1) ls rest)) : W p l e R s m args below meth c H locs cells slots Q (F0 m pc ls (.int x :: .int i :: .ref (ad k) :: rest)) := by
  obtain ⟨h1, h2⟩ := nI_ix hi hj hn
  refine va_zast (D := D) (cl := vwCl) (f := I k) (n := n) C.hx C.hb C.hK hP (C.hD.va I L) hS k 2 (gw_k hk (hc _ _)) rfl h1 hdg (fun H1 locs1 hP1 _ hS1 => kk H1 locs1 ?_ hS1)
  rw [h2, hz, gw_set (I' := sI I k j x) (L' := L) hk (by rw [hc]; simp only [sI, va_up_self]) (fun a h => sI_row h) (fun a h => rfl)] at hP1
  exact hP1
theorem g_get (C : gC p s m args meth c cc nL own D cy ad A) (hP : gP D cy ad I L H) {CN : String} {T : u_T} {N ci index : Nat} (k j : Nat) {fs : List Value} {v : Value} (hk : k < 154) (hc : kct cy ad k (I k) (L k) = .inr (ci, fs)) (hcl : vwCl[ci]? = some (CN, T, N)) (hin : ∀ w ∈ u_ws CN T N, w ∈ WS) (hj : j < N) (hl : Cond.fieldLink own index (T j).1 (T j).2.1 (T j).2.2.1 ∈ WS) (hv : fs[j]? = some v) (hdg : decode cc pc = .ok (.getfield index, 3))
    (kk : W p l e R s m args below meth c H locs cells slots Q (F0 m (pc + 3) ls (v :: rest))) : W p l e R s m args below meth c H locs cells slots Q (F0 m pc ls (.ref (ad k) :: rest)) :=
  va_get (D := D) (cl := vwCl) C.hx C.hb C.hts hin C.hown C.hK hP k (gw_k hk hc) hcl j hj (C.hts _ hl) (fun _ h => h) hv hdg kk
theorem g_getN (C : gC p s m args meth c cc nL own D cy ad A) (hP : gP D cy ad I L H) {CN host : String} {T : u_T} {N ci index : Nat} (k j : Nat) {fs : List Value} {v : Value} (hk : k < 154) (hc : kct cy ad k (I k) (L k) = .inr (ci, fs)) (hcl : vwCl[ci]? = some (CN, T, N)) (hin : ∀ w ∈ u_ws CN T N, w ∈ WS) (hj : j < N) (hl : Cond.fieldLinkNest own index (T j).1 (T j).2.1 (T j).2.2.1 host ∈ gNW) (hv : fs[j]? = some v) (hdg : decode cc pc = .ok (.getfield index, 3))
    (kk : W p l e R s m args below meth c H locs cells slots Q (F0 m (pc + 3) ls (v :: rest))) : W p l e R s m args below meth c H locs cells slots Q (F0 m pc ls (.ref (ad k) :: rest)) :=
  va_getN (D := D) (cl := vwCl) C.hx C.hb C.hts hin C.hown C.hK hP k (gw_k hk hc) hcl j hj (va_Nw.use rfl (C.hE.2.2.1 _ hl)) (fun _ h => h) hv hdg kk
theorem g_putI (C : gC p s m args meth c cc nL own D cy ad A) (hP : gP D cy ad I L H) (hS : va_S A s.heap H locs) {CN : String} {T : u_T} {N ci index : Nat} (k j : Nat) {fs : List Value} {x : Int32} (hk : k < 154) (hc : kct cy ad k (I k) (L k) = .inr (ci, fs)) (hcl : vwCl[ci]? = some (CN, T, N)) (hin : ∀ w ∈ u_ws CN T N, w ∈ WS) (ty0 : Nat → FieldType) (hty : ∀ k, k < N → parseFieldDescriptor (T k).2.2.1 = some (ty0 k)) (hnm : ∀ a, a < N → ∀ b, b < N → a ≠ b → (T a).2.1 ≠ (T b).2.1) (hj : j < N) (hl : Cond.fieldLink own index (T j).1 (T j).2.1 (T j).2.2.1 ∈ WS) (hfin : (T j).2.2.2 = false) (h0 : ty0 j = .int) (hlen : j < fs.length) (hset : kct cy ad k ((sI I k j x) k) ((L) k) = .inr (ci, fs.set j (.int x))) (hdg : decode cc pc = .ok (.putfield index, 3))
    (kk : ∀ (H1 : Heap) (locs1 : List Loc), gP D cy ad (sI I k j x) (L) H1 → va_S A s.heap H1 locs1 → W p l e R s m args below meth c H1 locs1 cells slots Q (F0 m (pc + 3) ls rest)) : W p l e R s m args below meth c H locs cells slots Q (F0 m pc ls (.int x :: .ref (ad k) :: rest)) := by
  refine va_put (D := D) (cl := vwCl) (ty := .int) C.hx C.hb C.hts hin ty0 hty hnm C.hown C.hK hP (C.hD.va I L) hS k (gw_k hk hc) hcl j hj (C.hts _ hl) (fun _ h => h) hfin (by rw [hty j hj, h0]) rfl rfl hlen hdg (fun H1 locs1 hP1 _ hS1 => kk H1 locs1 ?_ hS1)
  rw [gw_set (I' := sI I k j x) (L' := L) hk hset (fun a h => by first | rfl | exact sI_row h) (fun a h => by first | rfl | exact sL_row h)] at hP1
  exact hP1
theorem g_putL (C : gC p s m args meth c cc nL own D cy ad A) (hP : gP D cy ad I L H) (hS : va_S A s.heap H locs) {CN : String} {T : u_T} {N ci index : Nat} (k j : Nat) {fs : List Value} {x : Int64} (hk : k < 154) (hc : kct cy ad k (I k) (L k) = .inr (ci, fs)) (hcl : vwCl[ci]? = some (CN, T, N)) (hin : ∀ w ∈ u_ws CN T N, w ∈ WS) (ty0 : Nat → FieldType) (hty : ∀ k, k < N → parseFieldDescriptor (T k).2.2.1 = some (ty0 k)) (hnm : ∀ a, a < N → ∀ b, b < N → a ≠ b → (T a).2.1 ≠ (T b).2.1) (hj : j < N) (hl : Cond.fieldLink own index (T j).1 (T j).2.1 (T j).2.2.1 ∈ WS) (hfin : (T j).2.2.2 = false) (h0 : ty0 j = .long) (hlen : j < fs.length) (hset : kct cy ad k ((I) k) ((sL L k j x) k) = .inr (ci, fs.set j (.long x))) (hdg : decode cc pc = .ok (.putfield index, 3))
    (kk : ∀ (H1 : Heap) (locs1 : List Loc), gP D cy ad (I) (sL L k j x) H1 → va_S A s.heap H1 locs1 → W p l e R s m args below meth c H1 locs1 cells slots Q (F0 m (pc + 3) ls rest)) : W p l e R s m args below meth c H locs cells slots Q (F0 m pc ls (.long x :: .ref (ad k) :: rest)) := by
  refine va_put (D := D) (cl := vwCl) (ty := .long) C.hx C.hb C.hts hin ty0 hty hnm C.hown C.hK hP (C.hD.va I L) hS k (gw_k hk hc) hcl j hj (C.hts _ hl) (fun _ h => h) hfin (by rw [hty j hj, h0]) rfl rfl hlen hdg (fun H1 locs1 hP1 _ hS1 => kk H1 locs1 ?_ hS1)
  rw [gw_set (I' := I) (L' := sL L k j x) hk hset (fun a h => by first | rfl | exact sI_row h) (fun a h => by first | rfl | exact sL_row h)] at hP1
  exact hP1
theorem g_putIN (C : gC p s m args meth c cc nL own D cy ad A) (hP : gP D cy ad I L H) (hS : va_S A s.heap H locs) {CN host : String} {T : u_T} {N ci index : Nat} (k j : Nat) {fs : List Value} {x : Int32} (hk : k < 154) (hc : kct cy ad k (I k) (L k) = .inr (ci, fs)) (hcl : vwCl[ci]? = some (CN, T, N)) (hin : ∀ w ∈ u_ws CN T N, w ∈ WS) (ty0 : Nat → FieldType) (hty : ∀ k, k < N → parseFieldDescriptor (T k).2.2.1 = some (ty0 k)) (hnm : ∀ a, a < N → ∀ b, b < N → a ≠ b → (T a).2.1 ≠ (T b).2.1) (hj : j < N) (hl : Cond.fieldLinkNest own index (T j).1 (T j).2.1 (T j).2.2.1 host ∈ gNW) (hfin : (T j).2.2.2 = false) (h0 : ty0 j = .int) (hlen : j < fs.length) (hset : kct cy ad k ((sI I k j x) k) ((L) k) = .inr (ci, fs.set j (.int x))) (hdg : decode cc pc = .ok (.putfield index, 3))
    (kk : ∀ (H1 : Heap) (locs1 : List Loc), gP D cy ad (sI I k j x) (L) H1 → va_S A s.heap H1 locs1 → W p l e R s m args below meth c H1 locs1 cells slots Q (F0 m (pc + 3) ls rest)) : W p l e R s m args below meth c H locs cells slots Q (F0 m pc ls (.int x :: .ref (ad k) :: rest)) := by
  refine va_putN (D := D) (cl := vwCl) (ty := .int) C.hx C.hb C.hts hin ty0 hty hnm C.hown C.hK hP (C.hD.va I L) hS k (gw_k hk hc) hcl j hj (va_Nw.use rfl (C.hE.2.2.1 _ hl)) (fun _ h => h) hfin (by rw [hty j hj, h0]) rfl rfl hlen hdg (fun H1 locs1 hP1 _ hS1 => kk H1 locs1 ?_ hS1)
  rw [gw_set (I' := sI I k j x) (L' := L) hk hset (fun a h => by first | rfl | exact sI_row h) (fun a h => by first | rfl | exact sL_row h)] at hP1
  exact hP1
theorem g_putLN (C : gC p s m args meth c cc nL own D cy ad A) (hP : gP D cy ad I L H) (hS : va_S A s.heap H locs) {CN host : String} {T : u_T} {N ci index : Nat} (k j : Nat) {fs : List Value} {x : Int64} (hk : k < 154) (hc : kct cy ad k (I k) (L k) = .inr (ci, fs)) (hcl : vwCl[ci]? = some (CN, T, N)) (hin : ∀ w ∈ u_ws CN T N, w ∈ WS) (ty0 : Nat → FieldType) (hty : ∀ k, k < N → parseFieldDescriptor (T k).2.2.1 = some (ty0 k)) (hnm : ∀ a, a < N → ∀ b, b < N → a ≠ b → (T a).2.1 ≠ (T b).2.1) (hj : j < N) (hl : Cond.fieldLinkNest own index (T j).1 (T j).2.1 (T j).2.2.1 host ∈ gNW) (hfin : (T j).2.2.2 = false) (h0 : ty0 j = .long) (hlen : j < fs.length) (hset : kct cy ad k ((I) k) ((sL L k j x) k) = .inr (ci, fs.set j (.long x))) (hdg : decode cc pc = .ok (.putfield index, 3))
    (kk : ∀ (H1 : Heap) (locs1 : List Loc), gP D cy ad (I) (sL L k j x) H1 → va_S A s.heap H1 locs1 → W p l e R s m args below meth c H1 locs1 cells slots Q (F0 m (pc + 3) ls rest)) : W p l e R s m args below meth c H locs cells slots Q (F0 m pc ls (.long x :: .ref (ad k) :: rest)) := by
  refine va_putN (D := D) (cl := vwCl) (ty := .long) C.hx C.hb C.hts hin ty0 hty hnm C.hown C.hK hP (C.hD.va I L) hS k (gw_k hk hc) hcl j hj (va_Nw.use rfl (C.hE.2.2.1 _ hl)) (fun _ h => h) hfin (by rw [hty j hj, h0]) rfl rfl hlen hdg (fun H1 locs1 hP1 _ hS1 => kk H1 locs1 ?_ hS1)
  rw [gw_set (I' := I) (L' := sL L k j x) hk hset (fun a h => by first | rfl | exact sI_row h) (fun a h => by first | rfl | exact sL_row h)] at hP1
  exact hP1
end RW
/-! contracts -/
def gPc (D : va_G) (cy : Nat → ClassId) (ad : Nat → Nat) (as : List Value) (I : MI) (L : ML) (sz : Nat) : Array Value → State → Prop := va_Pc as (fun U => U.heap.size = sz ∧ gP D cy ad I L U.heap ∧ va_K D vwCl (gty cy) U ∧ gE (gA ad sz) U U.heap)
theorem gPc_blind {D : va_G} {cy : Nat → ClassId} {ad : Nat → Nat} {as : List Value} {I : MI} {L : ML} {sz : Nat} : FrameBlind (gPc D cy ad as I L sz) := fun a U g mk h =>
  ⟨h.1, h.2.1, h.2.2.1, va_K.moved (u := U) (U := U.calling g mk a) (Vm.Alike.refl U.vm) h.2.2.2.1, gE.warm (s := U) (U := U.calling g mk a) h.2.2.2.2 (State.WarmedH.refl U)⟩
def gQi (D : va_G) (cy : Nat → ClassId) (ad : Nat → Nat) (A : Nat → Prop) (post : Int32 → MI → ML → Prop) : Array Value → State → Outcome → State → Prop := va_Qi (fun r (u : MI × ML) => post r u.1 u.2) (fun u t => gP D cy ad u.1 u.2 t.heap) A
def gQl (D : va_G) (cy : Nat → ClassId) (ad : Nat → Nat) (A : Nat → Prop) (post : Int64 → MI → ML → Prop) : Array Value → State → Outcome → State → Prop := va_Ql (fun r (u : MI × ML) => post r u.1 u.2) (fun u t => gP D cy ad u.1 u.2 t.heap) A
def gQv (D : va_G) (cy : Nat → ClassId) (ad : Nat → Nat) (A : Nat → Prop) (post : MI → ML → Prop) : Array Value → State → Outcome → State → Prop := va_Qv (fun (u : MI × ML) => post u.1 u.2) (fun u t => gP D cy ad u.1 u.2 t.heap) A
def gXC (D : va_G) (cy : Nat → ClassId) (ad : Nat → Nat) (A : Nat → Prop) (xp : String → MI → ML → Prop) : String → State → State → Prop := vx_X (fun _ : MI × ML => True) (fun E u t => xp E u.1 u.2 ∧ gP D cy ad u.1 u.2 t.heap) A
/-- a method's word of itself and its table words -/
def gF (y : MethodName) (bytes : ByteArray) (maxL : Nat) (ret : Option FieldType) (n : Nat) : Prop := Cond.code y bytes maxL ret ∈ WS ∧ Cond.initialized y.cls ∈ WS ∧ (y.cls ≠ "java/lang/invoke/MethodHandle" ∧ y.cls ≠ "java/lang/invoke/VarHandle") ∧ (parseMethodDescriptor y.desc).map (fun d => d.parameters.length) = some n
theorem gpay {args : Array Value} {s : State} {w0 : Cond} (hts : ∀ w ∈ WS, w.before args s = true) (h0 : w0 ∈ WS) : ∀ w ∈ w0 :: WS, ∀ (a' : Array Value) (U : State), s.WarmedH U.vm → w.before a' U = true :=
  pay_in hts (fun w hw => by
    have h1 : w ∈ WS := (List.mem_cons.mp hw).elim (fun e => e ▸ h0) id
    exact ⟨h1, good_of_word (List.mem_filter.mp h1).2⟩)
def gMi (l : Launch) (D : va_G) (cy : Nat → ClassId) (ad : Nat → Nat) (y : MethodName) (cc : ByteArray) (nL : Nat) (ty : FieldType) (rm : Room) (as : List Value) (I : MI) (L : ML) (post : Int32 → MI → ML → Prop) : Prop :=
  ∀ sz : Nat, Met l y (Cond.code y cc nL (some ty) :: WS) rm (gPc D cy ad as I L sz) (gQi D cy ad (gA ad sz) post) rm.cells rm.slots (gA ad sz)
def gTi (l : Launch) (D : va_G) (cy : Nat → ClassId) (ad : Nat → Nat) (y : MethodName) (cc : ByteArray) (nL : Nat) (ty : FieldType) (rm : Room) (as : List Value) (I : MI) (L : ML) (post : Int32 → MI → ML → Prop) (xp : String → MI → ML → Prop) : Prop :=
  ∀ sz : Nat, vx_Met l y (Cond.code y cc nL (some ty) :: WS) rm (gPc D cy ad as I L sz) (gQi D cy ad (gA ad sz) post) (gXC D cy ad (gA ad sz) xp) rm.cells rm.slots (gA ad sz)
theorem gMi_of {l : Launch} {D : va_G} {cy : Nat → ClassId} {ad : Nat → Nat} {y : MethodName} {cc : ByteArray} {nL : Nat} {ty : FieldType} {rm : Room} {as : List Value} {I : MI} {L : ML} {post : Int32 → MI → ML → Prop} (hJ : gJ ad) (hy : plainName y.cls = true) (hcw : Cond.code y cc nL (some ty) ∈ WS) (hn : (lg_sl as).length ≤ nL)
    (body : ∀ (p : Program) (e : Env) (s : State) (m : MethodId) (below : List Frame) (meth : Method) (c : Code) (A : Nat → Prop) (ls : Array Slot), gC p s m as.toArray meth c cc nL y.cls D cy ad A → meth.sig.returnType = some ty → gP D cy ad I L s.heap → va_S A s.heap s.heap [] → lv_has ls nL (lv_args 0 as) →
      W p l e rm s m as.toArray below meth c s.heap [] 0 0 (MQ below (gQi D cy ad A post) as.toArray s rm.cells rm.slots A) (F0 m 0 ls [])) : gMi l D cy ad y cc nL ty rm as I L post := by
  intro sz
  refine Met.ofW (cc := cc) (maxL := nL) (ret := some ty) hy rfl ?_
  intro p e s m args below meth c s₁ B hml hv
  obtain ⟨rfl, hsz, hP, hK, hE⟩ := hv
  subst hsz
  have hts : ∀ w ∈ WS, w.before as.toArray s = true := fun w hw => atoms_spec (ws := Cond.code y cc nL (some ty) :: WS) B.pre w (List.mem_cons_of_mem _ hw)
  have hl := lv_entry as (n := nL) hn
  rw [lg_entry_eq]
  generalize (lg_sl as ++ List.replicate (nL - (lg_sl as).length) Slot.unset).toArray = ls at hl ⊢
  exact body p e s m below meth c (gA ad s.heap.size) ls ⟨B.exec, B.bytes, hml, findClass_of_methodNamed B.named, hts, B.notSynchronized, hK, ⟨hJ, fun k hk => Or.inl ⟨k, hk, rfl⟩⟩, fun q h => Or.inr h, hE⟩ B.returns hP va_S.rf hl
theorem gTi_of {l : Launch} {D : va_G} {cy : Nat → ClassId} {ad : Nat → Nat} {y : MethodName} {cc : ByteArray} {nL : Nat} {ty : FieldType} {rm : Room} {as : List Value} {I : MI} {L : ML} {post : Int32 → MI → ML → Prop} {xp : String → MI → ML → Prop} (hJ : gJ ad) (hy : plainName y.cls = true) (hcw : Cond.code y cc nL (some ty) ∈ WS) (hn : (lg_sl as).length ≤ nL)
    (body : ∀ (p : Program) (e : Env) (s : State) (m : MethodId) (below : List Frame) (meth : Method) (c : Code) (A : Nat → Prop) (ls : Array Slot), gC p s m as.toArray meth c cc nL y.cls D cy ad A → meth.sig.returnType = some ty → (∀ x ∈ c.exceptionTable.toList, False) → gP D cy ad I L s.heap → va_S A s.heap s.heap [] → lv_has ls nL (lv_args 0 as) →
      W p l e rm s m as.toArray below meth c s.heap [] 0 0 (vx_MQ below (gQi D cy ad A post) (gXC D cy ad A xp) as.toArray s rm.cells rm.slots A) (F0 m 0 ls [])) : gTi l D cy ad y cc nL ty rm as I L post xp := by
  intro sz
  refine vx_ofW (cc := cc) (maxL := nL) (ret := some ty) hy rfl ?_
  intro p e s m args below meth c s₁ B hml ht hv
  obtain ⟨rfl, hsz, hP, hK, hE⟩ := hv
  subst hsz
  have hts : ∀ w ∈ WS, w.before as.toArray s = true := fun w hw => atoms_spec (ws := Cond.code y cc nL (some ty) :: WS) B.pre w (List.mem_cons_of_mem _ hw)
  have hl := lv_entry as (n := nL) hn
  rw [lg_entry_eq]
  generalize (lg_sl as ++ List.replicate (nL - (lg_sl as).length) Slot.unset).toArray = ls at hl ⊢
  exact body p e s m below meth c (gA ad s.heap.size) ls ⟨B.exec, B.bytes, hml, findClass_of_methodNamed B.named, hts, B.notSynchronized, hK, ⟨hJ, fun k hk => Or.inl ⟨k, hk, rfl⟩⟩, fun q h => Or.inr h, hE⟩ B.returns ht hP va_S.rf hl
def gMl (l : Launch) (D : va_G) (cy : Nat → ClassId) (ad : Nat → Nat) (y : MethodName) (cc : ByteArray) (nL : Nat) (ty : FieldType) (rm : Room) (as : List Value) (I : MI) (L : ML) (post : Int64 → MI → ML → Prop) : Prop :=
  ∀ sz : Nat, Met l y (Cond.code y cc nL (some ty) :: WS) rm (gPc D cy ad as I L sz) (gQl D cy ad (gA ad sz) post) rm.cells rm.slots (gA ad sz)
def gTl (l : Launch) (D : va_G) (cy : Nat → ClassId) (ad : Nat → Nat) (y : MethodName) (cc : ByteArray) (nL : Nat) (ty : FieldType) (rm : Room) (as : List Value) (I : MI) (L : ML) (post : Int64 → MI → ML → Prop) (xp : String → MI → ML → Prop) : Prop :=
  ∀ sz : Nat, vx_Met l y (Cond.code y cc nL (some ty) :: WS) rm (gPc D cy ad as I L sz) (gQl D cy ad (gA ad sz) post) (gXC D cy ad (gA ad sz) xp) rm.cells rm.slots (gA ad sz)
theorem gMl_of {l : Launch} {D : va_G} {cy : Nat → ClassId} {ad : Nat → Nat} {y : MethodName} {cc : ByteArray} {nL : Nat} {ty : FieldType} {rm : Room} {as : List Value} {I : MI} {L : ML} {post : Int64 → MI → ML → Prop} (hJ : gJ ad) (hy : plainName y.cls = true) (hcw : Cond.code y cc nL (some ty) ∈ WS) (hn : (lg_sl as).length ≤ nL)
    (body : ∀ (p : Program) (e : Env) (s : State) (m : MethodId) (below : List Frame) (meth : Method) (c : Code) (A : Nat → Prop) (ls : Array Slot), gC p s m as.toArray meth c cc nL y.cls D cy ad A → meth.sig.returnType = some ty → gP D cy ad I L s.heap → va_S A s.heap s.heap [] → lv_has ls nL (lv_args 0 as) →
      W p l e rm s m as.toArray below meth c s.heap [] 0 0 (MQ below (gQl D cy ad A post) as.toArray s rm.cells rm.slots A) (F0 m 0 ls [])) : gMl l D cy ad y cc nL ty rm as I L post := by
  intro sz
  refine Met.ofW (cc := cc) (maxL := nL) (ret := some ty) hy rfl ?_
  intro p e s m args below meth c s₁ B hml hv
  obtain ⟨rfl, hsz, hP, hK, hE⟩ := hv
  subst hsz
  have hts : ∀ w ∈ WS, w.before as.toArray s = true := fun w hw => atoms_spec (ws := Cond.code y cc nL (some ty) :: WS) B.pre w (List.mem_cons_of_mem _ hw)
  have hl := lv_entry as (n := nL) hn
  rw [lg_entry_eq]
  generalize (lg_sl as ++ List.replicate (nL - (lg_sl as).length) Slot.unset).toArray = ls at hl ⊢
  exact body p e s m below meth c (gA ad s.heap.size) ls ⟨B.exec, B.bytes, hml, findClass_of_methodNamed B.named, hts, B.notSynchronized, hK, ⟨hJ, fun k hk => Or.inl ⟨k, hk, rfl⟩⟩, fun q h => Or.inr h, hE⟩ B.returns hP va_S.rf hl
theorem gTl_of {l : Launch} {D : va_G} {cy : Nat → ClassId} {ad : Nat → Nat} {y : MethodName} {cc : ByteArray} {nL : Nat} {ty : FieldType} {rm : Room} {as : List Value} {I : MI} {L : ML} {post : Int64 → MI → ML → Prop} {xp : String → MI → ML → Prop} (hJ : gJ ad) (hy : plainName y.cls = true) (hcw : Cond.code y cc nL (some ty) ∈ WS) (hn : (lg_sl as).length ≤ nL)
    (body : ∀ (p : Program) (e : Env) (s : State) (m : MethodId) (below : List Frame) (meth : Method) (c : Code) (A : Nat → Prop) (ls : Array Slot), gC p s m as.toArray meth c cc nL y.cls D cy ad A → meth.sig.returnType = some ty → (∀ x ∈ c.exceptionTable.toList, False) → gP D cy ad I L s.heap → va_S A s.heap s.heap [] → lv_has ls nL (lv_args 0 as) →
      W p l e rm s m as.toArray below meth c s.heap [] 0 0 (vx_MQ below (gQl D cy ad A post) (gXC D cy ad A xp) as.toArray s rm.cells rm.slots A) (F0 m 0 ls [])) : gTl l D cy ad y cc nL ty rm as I L post xp := by
  intro sz
  refine vx_ofW (cc := cc) (maxL := nL) (ret := some ty) hy rfl ?_
  intro p e s m args below meth c s₁ B hml ht hv
  obtain ⟨rfl, hsz, hP, hK, hE⟩ := hv
  subst hsz
  have hts : ∀ w ∈ WS, w.before as.toArray s = true := fun w hw => atoms_spec (ws := Cond.code y cc nL (some ty) :: WS) B.pre w (List.mem_cons_of_mem _ hw)
  have hl := lv_entry as (n := nL) hn
  rw [lg_entry_eq]
  generalize (lg_sl as ++ List.replicate (nL - (lg_sl as).length) Slot.unset).toArray = ls at hl ⊢
  exact body p e s m below meth c (gA ad s.heap.size) ls ⟨B.exec, B.bytes, hml, findClass_of_methodNamed B.named, hts, B.notSynchronized, hK, ⟨hJ, fun k hk => Or.inl ⟨k, hk, rfl⟩⟩, fun q h => Or.inr h, hE⟩ B.returns ht hP va_S.rf hl
def gMv (l : Launch) (D : va_G) (cy : Nat → ClassId) (ad : Nat → Nat) (y : MethodName) (cc : ByteArray) (nL : Nat) (rm : Room) (as : List Value) (I : MI) (L : ML) (post : MI → ML → Prop) : Prop :=
  ∀ sz : Nat, Met l y (Cond.code y cc nL none :: WS) rm (gPc D cy ad as I L sz) (gQv D cy ad (gA ad sz) post) rm.cells rm.slots (gA ad sz)
def gTv (l : Launch) (D : va_G) (cy : Nat → ClassId) (ad : Nat → Nat) (y : MethodName) (cc : ByteArray) (nL : Nat) (rm : Room) (as : List Value) (I : MI) (L : ML) (post : MI → ML → Prop) (xp : String → MI → ML → Prop) : Prop :=
  ∀ sz : Nat, vx_Met l y (Cond.code y cc nL none :: WS) rm (gPc D cy ad as I L sz) (gQv D cy ad (gA ad sz) post) (gXC D cy ad (gA ad sz) xp) rm.cells rm.slots (gA ad sz)
theorem gMv_of {l : Launch} {D : va_G} {cy : Nat → ClassId} {ad : Nat → Nat} {y : MethodName} {cc : ByteArray} {nL : Nat} {rm : Room} {as : List Value} {I : MI} {L : ML} {post : MI → ML → Prop} (hJ : gJ ad) (hy : plainName y.cls = true) (hcw : Cond.code y cc nL (none) ∈ WS) (hn : (lg_sl as).length ≤ nL)
    (body : ∀ (p : Program) (e : Env) (s : State) (m : MethodId) (below : List Frame) (meth : Method) (c : Code) (A : Nat → Prop) (ls : Array Slot), gC p s m as.toArray meth c cc nL y.cls D cy ad A → meth.sig.returnType = none → gP D cy ad I L s.heap → va_S A s.heap s.heap [] → lv_has ls nL (lv_args 0 as) →
      W p l e rm s m as.toArray below meth c s.heap [] 0 0 (MQ below (gQv D cy ad A post) as.toArray s rm.cells rm.slots A) (F0 m 0 ls [])) : gMv l D cy ad y cc nL rm as I L post := by
  intro sz
  refine Met.ofW (cc := cc) (maxL := nL) (ret := none) hy rfl ?_
  intro p e s m args below meth c s₁ B hml hv
  obtain ⟨rfl, hsz, hP, hK, hE⟩ := hv
  subst hsz
  have hts : ∀ w ∈ WS, w.before as.toArray s = true := fun w hw => atoms_spec (ws := Cond.code y cc nL (none) :: WS) B.pre w (List.mem_cons_of_mem _ hw)
  have hl := lv_entry as (n := nL) hn
  rw [lg_entry_eq]
  generalize (lg_sl as ++ List.replicate (nL - (lg_sl as).length) Slot.unset).toArray = ls at hl ⊢
  exact body p e s m below meth c (gA ad s.heap.size) ls ⟨B.exec, B.bytes, hml, findClass_of_methodNamed B.named, hts, B.notSynchronized, hK, ⟨hJ, fun k hk => Or.inl ⟨k, hk, rfl⟩⟩, fun q h => Or.inr h, hE⟩ B.returns hP va_S.rf hl
theorem gTv_of {l : Launch} {D : va_G} {cy : Nat → ClassId} {ad : Nat → Nat} {y : MethodName} {cc : ByteArray} {nL : Nat} {rm : Room} {as : List Value} {I : MI} {L : ML} {post : MI → ML → Prop} {xp : String → MI → ML → Prop} (hJ : gJ ad) (hy : plainName y.cls = true) (hcw : Cond.code y cc nL (none) ∈ WS) (hn : (lg_sl as).length ≤ nL)
    (body : ∀ (p : Program) (e : Env) (s : State) (m : MethodId) (below : List Frame) (meth : Method) (c : Code) (A : Nat → Prop) (ls : Array Slot), gC p s m as.toArray meth c cc nL y.cls D cy ad A → meth.sig.returnType = none → (∀ x ∈ c.exceptionTable.toList, False) → gP D cy ad I L s.heap → va_S A s.heap s.heap [] → lv_has ls nL (lv_args 0 as) →
      W p l e rm s m as.toArray below meth c s.heap [] 0 0 (vx_MQ below (gQv D cy ad A post) (gXC D cy ad A xp) as.toArray s rm.cells rm.slots A) (F0 m 0 ls [])) : gTv l D cy ad y cc nL rm as I L post xp := by
  intro sz
  refine vx_ofW (cc := cc) (maxL := nL) (ret := none) hy rfl ?_
  intro p e s m args below meth c s₁ B hml ht hv
  obtain ⟨rfl, hsz, hP, hK, hE⟩ := hv
  subst hsz
  have hts : ∀ w ∈ WS, w.before as.toArray s = true := fun w hw => atoms_spec (ws := Cond.code y cc nL (none) :: WS) B.pre w (List.mem_cons_of_mem _ hw)
  have hl := lv_entry as (n := nL) hn
  rw [lg_entry_eq]
  generalize (lg_sl as ++ List.replicate (nL - (lg_sl as).length) Slot.unset).toArray = ls at hl ⊢
  exact body p e s m below meth c (gA ad s.heap.size) ls ⟨B.exec, B.bytes, hml, findClass_of_methodNamed B.named, hts, B.notSynchronized, hK, ⟨hJ, fun k hk => Or.inl ⟨k, hk, rfl⟩⟩, fun q h => Or.inr h, hE⟩ B.returns ht hP va_S.rf hl
section RT
variable {p : Program} {l : Launch} {e : Env} {R : Room} {s : State} {m : MethodId} {args : Array Value} {below : List Frame} {meth : Method} {c : Code} {H : Heap} {locs : List Loc} {cells slots : Nat} {Q : State → Prop}
variable {cc : ByteArray} {nL : Nat} {own : String} {D : va_G} {cy : Nat → ClassId} {ad : Nat → Nat} {A : Nat → Prop} {I : MI} {L : ML} {pc : Nat} {ls : Array Slot} {rest : List Value} {mc ms : Nat} {xp : String → MI → ML → Prop}
theorem gM_iret (C : gC p s m args meth c cc nL own D cy ad A) {post : Int32 → MI → ML → Prop} {v : Int32} (hr : meth.sig.returnType = some .int) (hP : gP D cy ad I L H) (hS : va_S A s.heap H locs) (hc : cells ≤ mc) (hs : slots ≤ ms) (hdg : decode cc pc = .ok (.ireturn, 1)) (hq : post v I L) : W p l e R s m args below meth c H locs cells slots (MQ below (gQi D cy ad A post) args s mc ms A) (F0 m pc ls [.int v]) := by
  refine W.widen hc hs ?_
  skip
  exact W.iret (free := A) C.hx C.hb hr (fun t ht hW => (show gQi D cy ad A post args s (.returned (some (.int v))) t from ⟨⟨v, (I, L), rfl, hq, (show gP D cy ad I L t.heap from by rw [ht]; exact hP)⟩, hS.F ht⟩)) hS.2.2 hdg C.hlk
theorem gT_iret (C : gC p s m args meth c cc nL own D cy ad A) {post : Int32 → MI → ML → Prop} {v : Int32} (hr : meth.sig.returnType = some .int) (hP : gP D cy ad I L H) (hS : va_S A s.heap H locs) (hc : cells ≤ mc) (hs : slots ≤ ms) (hdg : decode cc pc = .ok (.ireturn, 1)) (hq : post v I L) : W p l e R s m args below meth c H locs cells slots (vx_MQ below (gQi D cy ad A post) (gXC D cy ad A xp) args s mc ms A) (F0 m pc ls [.int v]) := by
  refine W.widen hc hs ?_
  refine vx_ret ?_
  exact W.iret (free := A) C.hx C.hb hr (fun t ht hW => (show gQi D cy ad A post args s (.returned (some (.int v))) t from ⟨⟨v, (I, L), rfl, hq, (show gP D cy ad I L t.heap from by rw [ht]; exact hP)⟩, hS.F ht⟩)) hS.2.2 hdg C.hlk
theorem gM_zret (C : gC p s m args meth c cc nL own D cy ad A) {post : Int32 → MI → ML → Prop} {v : Int32} (hr : meth.sig.returnType = some .boolean) (hn : narrow .boolean (.int v) = .int v) (hP : gP D cy ad I L H) (hS : va_S A s.heap H locs) (hc : cells ≤ mc) (hs : slots ≤ ms) (hdg : decode cc pc = .ok (.ireturn, 1)) (hq : post v I L) : W p l e R s m args below meth c H locs cells slots (MQ below (gQi D cy ad A post) args s mc ms A) (F0 m pc ls [.int v]) := by
  refine W.widen hc hs ?_
  skip
  exact W.zret (free := A) C.hx C.hb hr hn (fun t ht hW => (show gQi D cy ad A post args s (.returned (some (.int v))) t from ⟨⟨v, (I, L), rfl, hq, (show gP D cy ad I L t.heap from by rw [ht]; exact hP)⟩, hS.F ht⟩)) hS.2.2 hdg C.hlk
theorem gT_zret (C : gC p s m args meth c cc nL own D cy ad A) {post : Int32 → MI → ML → Prop} {v : Int32} (hr : meth.sig.returnType = some .boolean) (hn : narrow .boolean (.int v) = .int v) (hP : gP D cy ad I L H) (hS : va_S A s.heap H locs) (hc : cells ≤ mc) (hs : slots ≤ ms) (hdg : decode cc pc = .ok (.ireturn, 1)) (hq : post v I L) : W p l e R s m args below meth c H locs cells slots (vx_MQ below (gQi D cy ad A post) (gXC D cy ad A xp) args s mc ms A) (F0 m pc ls [.int v]) := by
  refine W.widen hc hs ?_
  refine vx_ret ?_
  exact W.zret (free := A) C.hx C.hb hr hn (fun t ht hW => (show gQi D cy ad A post args s (.returned (some (.int v))) t from ⟨⟨v, (I, L), rfl, hq, (show gP D cy ad I L t.heap from by rw [ht]; exact hP)⟩, hS.F ht⟩)) hS.2.2 hdg C.hlk
theorem gM_lret (C : gC p s m args meth c cc nL own D cy ad A) {post : Int64 → MI → ML → Prop} {v : Int64} (hr : meth.sig.returnType = some .long) (hP : gP D cy ad I L H) (hS : va_S A s.heap H locs) (hc : cells ≤ mc) (hs : slots ≤ ms) (hdg : decode cc pc = .ok (.lreturn, 1)) (hq : post v I L) : W p l e R s m args below meth c H locs cells slots (MQ below (gQl D cy ad A post) args s mc ms A) (F0 m pc ls [.long v]) := by
  refine W.widen hc hs ?_
  skip
  exact W.lret (free := A) C.hx C.hb hr (fun t ht hW => (show gQl D cy ad A post args s (.returned (some (.long v))) t from ⟨⟨v, (I, L), rfl, hq, (show gP D cy ad I L t.heap from by rw [ht]; exact hP)⟩, hS.F ht⟩)) hS.2.2 hdg C.hlk
theorem gT_lret (C : gC p s m args meth c cc nL own D cy ad A) {post : Int64 → MI → ML → Prop} {v : Int64} (hr : meth.sig.returnType = some .long) (hP : gP D cy ad I L H) (hS : va_S A s.heap H locs) (hc : cells ≤ mc) (hs : slots ≤ ms) (hdg : decode cc pc = .ok (.lreturn, 1)) (hq : post v I L) : W p l e R s m args below meth c H locs cells slots (vx_MQ below (gQl D cy ad A post) (gXC D cy ad A xp) args s mc ms A) (F0 m pc ls [.long v]) := by
  refine W.widen hc hs ?_
  refine vx_ret ?_
  exact W.lret (free := A) C.hx C.hb hr (fun t ht hW => (show gQl D cy ad A post args s (.returned (some (.long v))) t from ⟨⟨v, (I, L), rfl, hq, (show gP D cy ad I L t.heap from by rw [ht]; exact hP)⟩, hS.F ht⟩)) hS.2.2 hdg C.hlk
theorem gM_vret (C : gC p s m args meth c cc nL own D cy ad A) {post : MI → ML → Prop} (hr : meth.sig.returnType = none) (hP : gP D cy ad I L H) (hS : va_S A s.heap H locs) (hc : cells ≤ mc) (hs : slots ≤ ms) (hdg : decode cc pc = .ok (.return_, 1)) (hq : post I L) : W p l e R s m args below meth c H locs cells slots (MQ below (gQv D cy ad A post) args s mc ms A) (F0 m pc ls []) := by
  refine W.widen hc hs ?_
  skip
  exact W.vret (free := A) C.hx C.hb hr (fun t ht hW => (show gQv D cy ad A post args s (.returned none) t from ⟨⟨(I, L), rfl, hq, (show gP D cy ad I L t.heap from by rw [ht]; exact hP)⟩, hS.F ht⟩)) hS.2.2 hdg C.hlk
theorem gT_vret (C : gC p s m args meth c cc nL own D cy ad A) {post : MI → ML → Prop} (hr : meth.sig.returnType = none) (hP : gP D cy ad I L H) (hS : va_S A s.heap H locs) (hc : cells ≤ mc) (hs : slots ≤ ms) (hdg : decode cc pc = .ok (.return_, 1)) (hq : post I L) : W p l e R s m args below meth c H locs cells slots (vx_MQ below (gQv D cy ad A post) (gXC D cy ad A xp) args s mc ms A) (F0 m pc ls []) := by
  refine W.widen hc hs ?_
  refine vx_ret ?_
  exact W.vret (free := A) C.hx C.hb hr (fun t ht hW => (show gQv D cy ad A post args s (.returned none) t from ⟨⟨(I, L), rfl, hq, (show gP D cy ad I L t.heap from by rw [ht]; exact hP)⟩, hS.F ht⟩)) hS.2.2 hdg C.hlk
theorem gM_callVi (C : gC p s m args meth c cc nL own D cy ad A) (hP : gP D cy ad I L H) (hS : va_S A s.heap H locs) (hls : ls.size = nL) {y : MethodName} {bytes : ByteArray} {maxL index n : Nat} {ty : FieldType} {rm : Room} {b : Nat} {As : List Value} {post : Int32 → MI → ML → Prop} (hM : gMi l D cy ad y bytes maxL ty rm (.ref (ad b) :: As) I L post) (hF : gF y bytes maxL (some ty) n) (hlk : Cond.methodLink own index y ∈ WS) (hin : Cond.instanceMethod y ∈ WS) (hse : Cond.selects y.cls y y ∈ WS) (hbk : b < 154) {ci : Nat} {fs : List Value} {T : u_T} {N : Nat} (hbc : kct cy ad b (I b) (L b) = .inr (ci, fs)) (hcl : vwCl[ci]? = some (y.cls, T, N)) (hn : As.length = n) (hR : rm.frames + 1 ≤ R.frames ∧ 8 + (maxL + 11) + rm.locals ≤ R.locals) (hcat : (rest.map fun v => v.category).sum ≤ 8) (hf : cells + rm.cells ≤ R.cells ∧ slots + rm.slots ≤ R.slots) (hdg : decode cc pc = .ok (.invokevirtual index, 3)) {st0 : List Value} (hst0 : st0 = (As.reverse ++ .ref (ad b) :: rest))
    (kk : ∀ (r : Int32) (I1 : MI) (L1 : ML) (H1 : Heap) (locs1 : List Loc), post r I1 L1 → gP D cy ad I1 L1 H1 → va_S A s.heap H1 locs1 → W p l e R s m args below meth c H1 locs1 (cells + rm.cells) (slots + rm.slots) Q (F0 m (pc + 3) ls (.int r :: rest))) : W p l e R s m args below meth c H locs cells slots Q (F0 m pc ls st0) := by
  subst hst0
  exact va_calli (va_runV (As := As) (rest := rest) ⟨C.hx, C.hb, C.hml, C.hown, C.hts⟩ (hM H.size) ⟨⟨rfl, rfl, hR.1, hR.2, gpay C.hts hF.1, List.mem_cons_self, C.hts _ hF.1, C.hts _ hF.2.1, hF.2.2.1, fun sig h => by have h2 := hF.2.2.2; rw [h] at h2; exact (Option.some.inj h2).symm, C.hts _ hlk⟩, C.hts _ hin, C.hts _ hse⟩ ⟨gPc_blind, va_recv C.hK hP hcl (gw_k hbk hbc), (fun U hU hW => ⟨rfl, by rw [hU], by rw [hU]; exact hP, va_K.moved hW.alike C.hK, by rw [hU]; exact C.envAt hS hW⟩)⟩ rfl hn hls rfl (lv_room hcat) hdg hf) hS (fun q _ h => C.sub hS q h) (fun q h => C.sub hS q h) (fun r u t H1 locs1 ht hvm hw hB hz hk1 hS1 => kk r u.1 u.2 H1 locs1 hw (by rw [← ht]; exact hB) hS1)
theorem gT_callVi (C : gC p s m args meth c cc nL own D cy ad A) (hP : gP D cy ad I L H) (hS : va_S A s.heap H locs) (hls : ls.size = nL) {y : MethodName} {bytes : ByteArray} {maxL index n : Nat} {ty : FieldType} {rm : Room} {b : Nat} {As : List Value} {post : Int32 → MI → ML → Prop} {xp1 : String → MI → ML → Prop} {Qc : Array Value → State → Outcome → State → Prop} (hM : gTi l D cy ad y bytes maxL ty rm (.ref (ad b) :: As) I L post xp1) (hF : gF y bytes maxL (some ty) n) (hlk : Cond.methodLink own index y ∈ WS) (hin : Cond.instanceMethod y ∈ WS) (hse : Cond.selects y.cls y y ∈ WS) (hbk : b < 154) {ci : Nat} {fs : List Value} {T : u_T} {N : Nat} (hbc : kct cy ad b (I b) (L b) = .inr (ci, fs)) (hcl : vwCl[ci]? = some (y.cls, T, N)) (hn : As.length = n) (hR : rm.frames + 1 ≤ R.frames ∧ 8 + (maxL + 11) + rm.locals ≤ R.locals) (hcat : (rest.map fun v => v.category).sum ≤ 8) (hf : cells + rm.cells ≤ R.cells ∧ slots + rm.slots ≤ R.slots) (hout : ∀ x ∈ c.exceptionTable.toList, False) (hxc : cells + rm.cells ≤ mc ∧ slots + rm.slots ≤ ms) (hxp : ∀ (E : String) (I1 : MI) (L1 : ML), xp1 E I1 L1 → xp E I1 L1) (hdg : decode cc pc = .ok (.invokevirtual index, 3)) {st0 : List Value} (hst0 : st0 = (As.reverse ++ .ref (ad b) :: rest))
    (kk : ∀ (r : Int32) (I1 : MI) (L1 : ML) (H1 : Heap) (locs1 : List Loc), post r I1 L1 → gP D cy ad I1 L1 H1 → va_S A s.heap H1 locs1 → W p l e R s m args below meth c H1 locs1 (cells + rm.cells) (slots + rm.slots) (vx_MQ below Qc (gXC D cy ad A xp) args s mc ms A) (F0 m (pc + 3) ls (.int r :: rest))) : W p l e R s m args below meth c H locs cells slots (vx_MQ below Qc (gXC D cy ad A xp) args s mc ms A) (F0 m pc ls st0) := by
  subst hst0
  exact vx_calli (vx_runV (As := As) (rest := rest) ⟨C.hx, C.hb, C.hml, C.hown, C.hts⟩ (hM H.size) ⟨⟨rfl, rfl, hR.1, hR.2, gpay C.hts hF.1, List.mem_cons_self, C.hts _ hF.1, C.hts _ hF.2.1, hF.2.2.1, fun sig h => by have h2 := hF.2.2.2; rw [h] at h2; exact (Option.some.inj h2).symm, C.hts _ hlk⟩, C.hts _ hin, C.hts _ hse⟩ ⟨gPc_blind, va_recv C.hK hP hcl (gw_k hbk hbc), (fun U hU hW => ⟨rfl, by rw [hU], by rw [hU]; exact hP, va_K.moved hW.alike C.hK, by rw [hU]; exact C.envAt hS hW⟩)⟩ rfl hn hls rfl (lv_room hcat) hdg hf) hS (fun q _ h => C.sub hS q h) (fun q h => C.sub hS q h) (fun q _ h => C.sub hS q h) (fun E ce q9 u t H1 locs1 ht hvm hpx hBX hz hk1 hS1 hce hcv hcE => vx_out (fun x hx => (hout x hx).elim) C.hlk hce hcv hcE (fun t2 ht2 hv2 => ⟨u, trivial, ⟨hxp E u.1 u.2 hBX.1, by rw [ht2, ← ht]; exact hBX.2⟩, hS1.F ht2⟩) hS1.2.2 hxc.1 hxc.2) (fun r u t H1 locs1 ht hvm hw hB hz hk1 hS1 => kk r u.1 u.2 H1 locs1 hw (by rw [← ht]; exact hB) hS1)
theorem gM_callVl (C : gC p s m args meth c cc nL own D cy ad A) (hP : gP D cy ad I L H) (hS : va_S A s.heap H locs) (hls : ls.size = nL) {y : MethodName} {bytes : ByteArray} {maxL index n : Nat} {ty : FieldType} {rm : Room} {b : Nat} {As : List Value} {post : Int64 → MI → ML → Prop} (hM : gMl l D cy ad y bytes maxL ty rm (.ref (ad b) :: As) I L post) (hF : gF y bytes maxL (some ty) n) (hlk : Cond.methodLink own index y ∈ WS) (hin : Cond.instanceMethod y ∈ WS) (hse : Cond.selects y.cls y y ∈ WS) (hbk : b < 154) {ci : Nat} {fs : List Value} {T : u_T} {N : Nat} (hbc : kct cy ad b (I b) (L b) = .inr (ci, fs)) (hcl : vwCl[ci]? = some (y.cls, T, N)) (hn : As.length = n) (hR : rm.frames + 1 ≤ R.frames ∧ 8 + (maxL + 11) + rm.locals ≤ R.locals) (hcat : (rest.map fun v => v.category).sum ≤ 8) (hf : cells + rm.cells ≤ R.cells ∧ slots + rm.slots ≤ R.slots) (hdg : decode cc pc = .ok (.invokevirtual index, 3)) {st0 : List Value} (hst0 : st0 = (As.reverse ++ .ref (ad b) :: rest))
    (kk : ∀ (r : Int64) (I1 : MI) (L1 : ML) (H1 : Heap) (locs1 : List Loc), post r I1 L1 → gP D cy ad I1 L1 H1 → va_S A s.heap H1 locs1 → W p l e R s m args below meth c H1 locs1 (cells + rm.cells) (slots + rm.slots) Q (F0 m (pc + 3) ls (.long r :: rest))) : W p l e R s m args below meth c H locs cells slots Q (F0 m pc ls st0) := by
  subst hst0
  exact va_calll (va_runV (As := As) (rest := rest) ⟨C.hx, C.hb, C.hml, C.hown, C.hts⟩ (hM H.size) ⟨⟨rfl, rfl, hR.1, hR.2, gpay C.hts hF.1, List.mem_cons_self, C.hts _ hF.1, C.hts _ hF.2.1, hF.2.2.1, fun sig h => by have h2 := hF.2.2.2; rw [h] at h2; exact (Option.some.inj h2).symm, C.hts _ hlk⟩, C.hts _ hin, C.hts _ hse⟩ ⟨gPc_blind, va_recv C.hK hP hcl (gw_k hbk hbc), (fun U hU hW => ⟨rfl, by rw [hU], by rw [hU]; exact hP, va_K.moved hW.alike C.hK, by rw [hU]; exact C.envAt hS hW⟩)⟩ rfl hn hls rfl (lv_room hcat) hdg hf) hS (fun q _ h => C.sub hS q h) (fun q h => C.sub hS q h) (fun r u t H1 locs1 ht hvm hw hB hz hk1 hS1 => kk r u.1 u.2 H1 locs1 hw (by rw [← ht]; exact hB) hS1)
theorem gT_callVl (C : gC p s m args meth c cc nL own D cy ad A) (hP : gP D cy ad I L H) (hS : va_S A s.heap H locs) (hls : ls.size = nL) {y : MethodName} {bytes : ByteArray} {maxL index n : Nat} {ty : FieldType} {rm : Room} {b : Nat} {As : List Value} {post : Int64 → MI → ML → Prop} {xp1 : String → MI → ML → Prop} {Qc : Array Value → State → Outcome → State → Prop} (hM : gTl l D cy ad y bytes maxL ty rm (.ref (ad b) :: As) I L post xp1) (hF : gF y bytes maxL (some ty) n) (hlk : Cond.methodLink own index y ∈ WS) (hin : Cond.instanceMethod y ∈ WS) (hse : Cond.selects y.cls y y ∈ WS) (hbk : b < 154) {ci : Nat} {fs : List Value} {T : u_T} {N : Nat} (hbc : kct cy ad b (I b) (L b) = .inr (ci, fs)) (hcl : vwCl[ci]? = some (y.cls, T, N)) (hn : As.length = n) (hR : rm.frames + 1 ≤ R.frames ∧ 8 + (maxL + 11) + rm.locals ≤ R.locals) (hcat : (rest.map fun v => v.category).sum ≤ 8) (hf : cells + rm.cells ≤ R.cells ∧ slots + rm.slots ≤ R.slots) (hout : ∀ x ∈ c.exceptionTable.toList, False) (hxc : cells + rm.cells ≤ mc ∧ slots + rm.slots ≤ ms) (hxp : ∀ (E : String) (I1 : MI) (L1 : ML), xp1 E I1 L1 → xp E I1 L1) (hdg : decode cc pc = .ok (.invokevirtual index, 3)) {st0 : List Value} (hst0 : st0 = (As.reverse ++ .ref (ad b) :: rest))
    (kk : ∀ (r : Int64) (I1 : MI) (L1 : ML) (H1 : Heap) (locs1 : List Loc), post r I1 L1 → gP D cy ad I1 L1 H1 → va_S A s.heap H1 locs1 → W p l e R s m args below meth c H1 locs1 (cells + rm.cells) (slots + rm.slots) (vx_MQ below Qc (gXC D cy ad A xp) args s mc ms A) (F0 m (pc + 3) ls (.long r :: rest))) : W p l e R s m args below meth c H locs cells slots (vx_MQ below Qc (gXC D cy ad A xp) args s mc ms A) (F0 m pc ls st0) := by
  subst hst0
  exact vx_calll (vx_runV (As := As) (rest := rest) ⟨C.hx, C.hb, C.hml, C.hown, C.hts⟩ (hM H.size) ⟨⟨rfl, rfl, hR.1, hR.2, gpay C.hts hF.1, List.mem_cons_self, C.hts _ hF.1, C.hts _ hF.2.1, hF.2.2.1, fun sig h => by have h2 := hF.2.2.2; rw [h] at h2; exact (Option.some.inj h2).symm, C.hts _ hlk⟩, C.hts _ hin, C.hts _ hse⟩ ⟨gPc_blind, va_recv C.hK hP hcl (gw_k hbk hbc), (fun U hU hW => ⟨rfl, by rw [hU], by rw [hU]; exact hP, va_K.moved hW.alike C.hK, by rw [hU]; exact C.envAt hS hW⟩)⟩ rfl hn hls rfl (lv_room hcat) hdg hf) hS (fun q _ h => C.sub hS q h) (fun q h => C.sub hS q h) (fun q _ h => C.sub hS q h) (fun E ce q9 u t H1 locs1 ht hvm hpx hBX hz hk1 hS1 hce hcv hcE => vx_out (fun x hx => (hout x hx).elim) C.hlk hce hcv hcE (fun t2 ht2 hv2 => ⟨u, trivial, ⟨hxp E u.1 u.2 hBX.1, by rw [ht2, ← ht]; exact hBX.2⟩, hS1.F ht2⟩) hS1.2.2 hxc.1 hxc.2) (fun r u t H1 locs1 ht hvm hw hB hz hk1 hS1 => kk r u.1 u.2 H1 locs1 hw (by rw [← ht]; exact hB) hS1)
theorem gM_callVv (C : gC p s m args meth c cc nL own D cy ad A) (hP : gP D cy ad I L H) (hS : va_S A s.heap H locs) (hls : ls.size = nL) {y : MethodName} {bytes : ByteArray} {maxL index n : Nat} {rm : Room} {b : Nat} {As : List Value} {post : MI → ML → Prop} (hM : gMv l D cy ad y bytes maxL rm (.ref (ad b) :: As) I L post) (hF : gF y bytes maxL none n) (hlk : Cond.methodLink own index y ∈ WS) (hin : Cond.instanceMethod y ∈ WS) (hse : Cond.selects y.cls y y ∈ WS) (hbk : b < 154) {ci : Nat} {fs : List Value} {T : u_T} {N : Nat} (hbc : kct cy ad b (I b) (L b) = .inr (ci, fs)) (hcl : vwCl[ci]? = some (y.cls, T, N)) (hn : As.length = n) (hR : rm.frames + 1 ≤ R.frames ∧ 8 + (maxL + 11) + rm.locals ≤ R.locals) (hcat : (rest.map fun v => v.category).sum ≤ 8) (hf : cells + rm.cells ≤ R.cells ∧ slots + rm.slots ≤ R.slots) (hdg : decode cc pc = .ok (.invokevirtual index, 3)) {st0 : List Value} (hst0 : st0 = (As.reverse ++ .ref (ad b) :: rest))
    (kk : ∀ (I1 : MI) (L1 : ML) (H1 : Heap) (locs1 : List Loc), post I1 L1 → gP D cy ad I1 L1 H1 → va_S A s.heap H1 locs1 → W p l e R s m args below meth c H1 locs1 (cells + rm.cells) (slots + rm.slots) Q (F0 m (pc + 3) ls rest)) : W p l e R s m args below meth c H locs cells slots Q (F0 m pc ls st0) := by
  subst hst0
  exact va_callv (va_runV (As := As) (rest := rest) ⟨C.hx, C.hb, C.hml, C.hown, C.hts⟩ (hM H.size) ⟨⟨rfl, rfl, hR.1, hR.2, gpay C.hts hF.1, List.mem_cons_self, C.hts _ hF.1, C.hts _ hF.2.1, hF.2.2.1, fun sig h => by have h2 := hF.2.2.2; rw [h] at h2; exact (Option.some.inj h2).symm, C.hts _ hlk⟩, C.hts _ hin, C.hts _ hse⟩ ⟨gPc_blind, va_recv C.hK hP hcl (gw_k hbk hbc), (fun U hU hW => ⟨rfl, by rw [hU], by rw [hU]; exact hP, va_K.moved hW.alike C.hK, by rw [hU]; exact C.envAt hS hW⟩)⟩ rfl hn hls rfl (lv_room hcat) hdg hf) hS (fun q _ h => C.sub hS q h) (fun q h => C.sub hS q h) (fun u t H1 locs1 ht hvm hw hB hz hk1 hS1 => kk u.1 u.2 H1 locs1 hw (by rw [← ht]; exact hB) hS1)
theorem gT_callVv (C : gC p s m args meth c cc nL own D cy ad A) (hP : gP D cy ad I L H) (hS : va_S A s.heap H locs) (hls : ls.size = nL) {y : MethodName} {bytes : ByteArray} {maxL index n : Nat} {rm : Room} {b : Nat} {As : List Value} {post : MI → ML → Prop} {xp1 : String → MI → ML → Prop} {Qc : Array Value → State → Outcome → State → Prop} (hM : gTv l D cy ad y bytes maxL rm (.ref (ad b) :: As) I L post xp1) (hF : gF y bytes maxL none n) (hlk : Cond.methodLink own index y ∈ WS) (hin : Cond.instanceMethod y ∈ WS) (hse : Cond.selects y.cls y y ∈ WS) (hbk : b < 154) {ci : Nat} {fs : List Value} {T : u_T} {N : Nat} (hbc : kct cy ad b (I b) (L b) = .inr (ci, fs)) (hcl : vwCl[ci]? = some (y.cls, T, N)) (hn : As.length = n) (hR : rm.frames + 1 ≤ R.frames ∧ 8 + (maxL + 11) + rm.locals ≤ R.locals) (hcat : (rest.map fun v => v.category).sum ≤ 8) (hf : cells + rm.cells ≤ R.cells ∧ slots + rm.slots ≤ R.slots) (hout : ∀ x ∈ c.exceptionTable.toList, False) (hxc : cells + rm.cells ≤ mc ∧ slots + rm.slots ≤ ms) (hxp : ∀ (E : String) (I1 : MI) (L1 : ML), xp1 E I1 L1 → xp E I1 L1) (hdg : decode cc pc = .ok (.invokevirtual index, 3)) {st0 : List Value} (hst0 : st0 = (As.reverse ++ .ref (ad b) :: rest))
    (kk : ∀ (I1 : MI) (L1 : ML) (H1 : Heap) (locs1 : List Loc), post I1 L1 → gP D cy ad I1 L1 H1 → va_S A s.heap H1 locs1 → W p l e R s m args below meth c H1 locs1 (cells + rm.cells) (slots + rm.slots) (vx_MQ below Qc (gXC D cy ad A xp) args s mc ms A) (F0 m (pc + 3) ls rest)) : W p l e R s m args below meth c H locs cells slots (vx_MQ below Qc (gXC D cy ad A xp) args s mc ms A) (F0 m pc ls st0) := by
  subst hst0
  exact vx_callv (vx_runV (As := As) (rest := rest) ⟨C.hx, C.hb, C.hml, C.hown, C.hts⟩ (hM H.size) ⟨⟨rfl, rfl, hR.1, hR.2, gpay C.hts hF.1, List.mem_cons_self, C.hts _ hF.1, C.hts _ hF.2.1, hF.2.2.1, fun sig h => by have h2 := hF.2.2.2; rw [h] at h2; exact (Option.some.inj h2).symm, C.hts _ hlk⟩, C.hts _ hin, C.hts _ hse⟩ ⟨gPc_blind, va_recv C.hK hP hcl (gw_k hbk hbc), (fun U hU hW => ⟨rfl, by rw [hU], by rw [hU]; exact hP, va_K.moved hW.alike C.hK, by rw [hU]; exact C.envAt hS hW⟩)⟩ rfl hn hls rfl (lv_room hcat) hdg hf) hS (fun q _ h => C.sub hS q h) (fun q h => C.sub hS q h) (fun q _ h => C.sub hS q h) (fun E ce q9 u t H1 locs1 ht hvm hpx hBX hz hk1 hS1 hce hcv hcE => vx_out (fun x hx => (hout x hx).elim) C.hlk hce hcv hcE (fun t2 ht2 hv2 => ⟨u, trivial, ⟨hxp E u.1 u.2 hBX.1, by rw [ht2, ← ht]; exact hBX.2⟩, hS1.F ht2⟩) hS1.2.2 hxc.1 hxc.2) (fun u t H1 locs1 ht hvm hw hB hz hk1 hS1 => kk u.1 u.2 H1 locs1 hw (by rw [← ht]; exact hB) hS1)
theorem gM_callSi (C : gC p s m args meth c cc nL own D cy ad A) (hP : gP D cy ad I L H) (hS : va_S A s.heap H locs) (hls : ls.size = nL) {y : MethodName} {bytes : ByteArray} {maxL index n : Nat} {ty : FieldType} {rm : Room} {As : List Value} {post : Int32 → MI → ML → Prop} (hM : gMi l D cy ad y bytes maxL ty rm As I L post) (hF : gF y bytes maxL (some ty) n) (hlk : Cond.methodLink own index y ∈ WS) (hst : Cond.static y ∈ WS) (hn : As.length = n) (hR : rm.frames + 1 ≤ R.frames ∧ 8 + (maxL + 11) + rm.locals ≤ R.locals) (hcat : (rest.map fun v => v.category).sum ≤ 8) (hf : cells + rm.cells ≤ R.cells ∧ slots + rm.slots ≤ R.slots) (hdg : decode cc pc = .ok (.invokestatic index, 3)) {st0 : List Value} (hst0 : st0 = (As.reverse ++ rest))
    (kk : ∀ (r : Int32) (I1 : MI) (L1 : ML) (H1 : Heap) (locs1 : List Loc), post r I1 L1 → gP D cy ad I1 L1 H1 → va_S A s.heap H1 locs1 → W p l e R s m args below meth c H1 locs1 (cells + rm.cells) (slots + rm.slots) Q (F0 m (pc + 3) ls (.int r :: rest))) : W p l e R s m args below meth c H locs cells slots Q (F0 m pc ls st0) := by
  subst hst0
  exact va_calli (va_runS (As := As) (rest := rest) ⟨C.hx, C.hb, C.hml, C.hown, C.hts⟩ (hM H.size) ⟨⟨rfl, rfl, hR.1, hR.2, gpay C.hts hF.1, List.mem_cons_self, C.hts _ hF.1, C.hts _ hF.2.1, hF.2.2.1, fun sig h => by have h2 := hF.2.2.2; rw [h] at h2; exact (Option.some.inj h2).symm, C.hts _ hlk⟩, C.hts _ hst⟩ ⟨gPc_blind, (fun U hU hW => ⟨rfl, by rw [hU], by rw [hU]; exact hP, va_K.moved hW.alike C.hK, by rw [hU]; exact C.envAt hS hW⟩)⟩ rfl hn hls rfl (lv_room hcat) hdg hf) hS (fun q _ h => C.sub hS q h) (fun q h => C.sub hS q h) (fun r u t H1 locs1 ht hvm hw hB hz hk1 hS1 => kk r u.1 u.2 H1 locs1 hw (by rw [← ht]; exact hB) hS1)
theorem gT_callSi (C : gC p s m args meth c cc nL own D cy ad A) (hP : gP D cy ad I L H) (hS : va_S A s.heap H locs) (hls : ls.size = nL) {y : MethodName} {bytes : ByteArray} {maxL index n : Nat} {ty : FieldType} {rm : Room} {As : List Value} {post : Int32 → MI → ML → Prop} {xp1 : String → MI → ML → Prop} {Qc : Array Value → State → Outcome → State → Prop} (hM : gTi l D cy ad y bytes maxL ty rm As I L post xp1) (hF : gF y bytes maxL (some ty) n) (hlk : Cond.methodLink own index y ∈ WS) (hst : Cond.static y ∈ WS) (hn : As.length = n) (hR : rm.frames + 1 ≤ R.frames ∧ 8 + (maxL + 11) + rm.locals ≤ R.locals) (hcat : (rest.map fun v => v.category).sum ≤ 8) (hf : cells + rm.cells ≤ R.cells ∧ slots + rm.slots ≤ R.slots) (hout : ∀ x ∈ c.exceptionTable.toList, False) (hxc : cells + rm.cells ≤ mc ∧ slots + rm.slots ≤ ms) (hxp : ∀ (E : String) (I1 : MI) (L1 : ML), xp1 E I1 L1 → xp E I1 L1) (hdg : decode cc pc = .ok (.invokestatic index, 3)) {st0 : List Value} (hst0 : st0 = (As.reverse ++ rest))
    (kk : ∀ (r : Int32) (I1 : MI) (L1 : ML) (H1 : Heap) (locs1 : List Loc), post r I1 L1 → gP D cy ad I1 L1 H1 → va_S A s.heap H1 locs1 → W p l e R s m args below meth c H1 locs1 (cells + rm.cells) (slots + rm.slots) (vx_MQ below Qc (gXC D cy ad A xp) args s mc ms A) (F0 m (pc + 3) ls (.int r :: rest))) : W p l e R s m args below meth c H locs cells slots (vx_MQ below Qc (gXC D cy ad A xp) args s mc ms A) (F0 m pc ls st0) := by
  subst hst0
  exact vx_calli (vx_runS (As := As) (rest := rest) ⟨C.hx, C.hb, C.hml, C.hown, C.hts⟩ (hM H.size) ⟨⟨rfl, rfl, hR.1, hR.2, gpay C.hts hF.1, List.mem_cons_self, C.hts _ hF.1, C.hts _ hF.2.1, hF.2.2.1, fun sig h => by have h2 := hF.2.2.2; rw [h] at h2; exact (Option.some.inj h2).symm, C.hts _ hlk⟩, C.hts _ hst⟩ ⟨gPc_blind, (fun U hU hW => ⟨rfl, by rw [hU], by rw [hU]; exact hP, va_K.moved hW.alike C.hK, by rw [hU]; exact C.envAt hS hW⟩)⟩ rfl hn hls rfl (lv_room hcat) hdg hf) hS (fun q _ h => C.sub hS q h) (fun q h => C.sub hS q h) (fun q _ h => C.sub hS q h) (fun E ce q9 u t H1 locs1 ht hvm hpx hBX hz hk1 hS1 hce hcv hcE => vx_out (fun x hx => (hout x hx).elim) C.hlk hce hcv hcE (fun t2 ht2 hv2 => ⟨u, trivial, ⟨hxp E u.1 u.2 hBX.1, by rw [ht2, ← ht]; exact hBX.2⟩, hS1.F ht2⟩) hS1.2.2 hxc.1 hxc.2) (fun r u t H1 locs1 ht hvm hw hB hz hk1 hS1 => kk r u.1 u.2 H1 locs1 hw (by rw [← ht]; exact hB) hS1)
theorem gM_callSl (C : gC p s m args meth c cc nL own D cy ad A) (hP : gP D cy ad I L H) (hS : va_S A s.heap H locs) (hls : ls.size = nL) {y : MethodName} {bytes : ByteArray} {maxL index n : Nat} {ty : FieldType} {rm : Room} {As : List Value} {post : Int64 → MI → ML → Prop} (hM : gMl l D cy ad y bytes maxL ty rm As I L post) (hF : gF y bytes maxL (some ty) n) (hlk : Cond.methodLink own index y ∈ WS) (hst : Cond.static y ∈ WS) (hn : As.length = n) (hR : rm.frames + 1 ≤ R.frames ∧ 8 + (maxL + 11) + rm.locals ≤ R.locals) (hcat : (rest.map fun v => v.category).sum ≤ 8) (hf : cells + rm.cells ≤ R.cells ∧ slots + rm.slots ≤ R.slots) (hdg : decode cc pc = .ok (.invokestatic index, 3)) {st0 : List Value} (hst0 : st0 = (As.reverse ++ rest))
    (kk : ∀ (r : Int64) (I1 : MI) (L1 : ML) (H1 : Heap) (locs1 : List Loc), post r I1 L1 → gP D cy ad I1 L1 H1 → va_S A s.heap H1 locs1 → W p l e R s m args below meth c H1 locs1 (cells + rm.cells) (slots + rm.slots) Q (F0 m (pc + 3) ls (.long r :: rest))) : W p l e R s m args below meth c H locs cells slots Q (F0 m pc ls st0) := by
  subst hst0
  exact va_calll (va_runS (As := As) (rest := rest) ⟨C.hx, C.hb, C.hml, C.hown, C.hts⟩ (hM H.size) ⟨⟨rfl, rfl, hR.1, hR.2, gpay C.hts hF.1, List.mem_cons_self, C.hts _ hF.1, C.hts _ hF.2.1, hF.2.2.1, fun sig h => by have h2 := hF.2.2.2; rw [h] at h2; exact (Option.some.inj h2).symm, C.hts _ hlk⟩, C.hts _ hst⟩ ⟨gPc_blind, (fun U hU hW => ⟨rfl, by rw [hU], by rw [hU]; exact hP, va_K.moved hW.alike C.hK, by rw [hU]; exact C.envAt hS hW⟩)⟩ rfl hn hls rfl (lv_room hcat) hdg hf) hS (fun q _ h => C.sub hS q h) (fun q h => C.sub hS q h) (fun r u t H1 locs1 ht hvm hw hB hz hk1 hS1 => kk r u.1 u.2 H1 locs1 hw (by rw [← ht]; exact hB) hS1)
theorem gT_callSl (C : gC p s m args meth c cc nL own D cy ad A) (hP : gP D cy ad I L H) (hS : va_S A s.heap H locs) (hls : ls.size = nL) {y : MethodName} {bytes : ByteArray} {maxL index n : Nat} {ty : FieldType} {rm : Room} {As : List Value} {post : Int64 → MI → ML → Prop} {xp1 : String → MI → ML → Prop} {Qc : Array Value → State → Outcome → State → Prop} (hM : gTl l D cy ad y bytes maxL ty rm As I L post xp1) (hF : gF y bytes maxL (some ty) n) (hlk : Cond.methodLink own index y ∈ WS) (hst : Cond.static y ∈ WS) (hn : As.length = n) (hR : rm.frames + 1 ≤ R.frames ∧ 8 + (maxL + 11) + rm.locals ≤ R.locals) (hcat : (rest.map fun v => v.category).sum ≤ 8) (hf : cells + rm.cells ≤ R.cells ∧ slots + rm.slots ≤ R.slots) (hout : ∀ x ∈ c.exceptionTable.toList, False) (hxc : cells + rm.cells ≤ mc ∧ slots + rm.slots ≤ ms) (hxp : ∀ (E : String) (I1 : MI) (L1 : ML), xp1 E I1 L1 → xp E I1 L1) (hdg : decode cc pc = .ok (.invokestatic index, 3)) {st0 : List Value} (hst0 : st0 = (As.reverse ++ rest))
    (kk : ∀ (r : Int64) (I1 : MI) (L1 : ML) (H1 : Heap) (locs1 : List Loc), post r I1 L1 → gP D cy ad I1 L1 H1 → va_S A s.heap H1 locs1 → W p l e R s m args below meth c H1 locs1 (cells + rm.cells) (slots + rm.slots) (vx_MQ below Qc (gXC D cy ad A xp) args s mc ms A) (F0 m (pc + 3) ls (.long r :: rest))) : W p l e R s m args below meth c H locs cells slots (vx_MQ below Qc (gXC D cy ad A xp) args s mc ms A) (F0 m pc ls st0) := by
  subst hst0
  exact vx_calll (vx_runS (As := As) (rest := rest) ⟨C.hx, C.hb, C.hml, C.hown, C.hts⟩ (hM H.size) ⟨⟨rfl, rfl, hR.1, hR.2, gpay C.hts hF.1, List.mem_cons_self, C.hts _ hF.1, C.hts _ hF.2.1, hF.2.2.1, fun sig h => by have h2 := hF.2.2.2; rw [h] at h2; exact (Option.some.inj h2).symm, C.hts _ hlk⟩, C.hts _ hst⟩ ⟨gPc_blind, (fun U hU hW => ⟨rfl, by rw [hU], by rw [hU]; exact hP, va_K.moved hW.alike C.hK, by rw [hU]; exact C.envAt hS hW⟩)⟩ rfl hn hls rfl (lv_room hcat) hdg hf) hS (fun q _ h => C.sub hS q h) (fun q h => C.sub hS q h) (fun q _ h => C.sub hS q h) (fun E ce q9 u t H1 locs1 ht hvm hpx hBX hz hk1 hS1 hce hcv hcE => vx_out (fun x hx => (hout x hx).elim) C.hlk hce hcv hcE (fun t2 ht2 hv2 => ⟨u, trivial, ⟨hxp E u.1 u.2 hBX.1, by rw [ht2, ← ht]; exact hBX.2⟩, hS1.F ht2⟩) hS1.2.2 hxc.1 hxc.2) (fun r u t H1 locs1 ht hvm hw hB hz hk1 hS1 => kk r u.1 u.2 H1 locs1 hw (by rw [← ht]; exact hB) hS1)
theorem gM_callSv (C : gC p s m args meth c cc nL own D cy ad A) (hP : gP D cy ad I L H) (hS : va_S A s.heap H locs) (hls : ls.size = nL) {y : MethodName} {bytes : ByteArray} {maxL index n : Nat} {rm : Room} {As : List Value} {post : MI → ML → Prop} (hM : gMv l D cy ad y bytes maxL rm As I L post) (hF : gF y bytes maxL none n) (hlk : Cond.methodLink own index y ∈ WS) (hst : Cond.static y ∈ WS) (hn : As.length = n) (hR : rm.frames + 1 ≤ R.frames ∧ 8 + (maxL + 11) + rm.locals ≤ R.locals) (hcat : (rest.map fun v => v.category).sum ≤ 8) (hf : cells + rm.cells ≤ R.cells ∧ slots + rm.slots ≤ R.slots) (hdg : decode cc pc = .ok (.invokestatic index, 3)) {st0 : List Value} (hst0 : st0 = (As.reverse ++ rest))
    (kk : ∀ (I1 : MI) (L1 : ML) (H1 : Heap) (locs1 : List Loc), post I1 L1 → gP D cy ad I1 L1 H1 → va_S A s.heap H1 locs1 → W p l e R s m args below meth c H1 locs1 (cells + rm.cells) (slots + rm.slots) Q (F0 m (pc + 3) ls rest)) : W p l e R s m args below meth c H locs cells slots Q (F0 m pc ls st0) := by
  subst hst0
  exact va_callv (va_runS (As := As) (rest := rest) ⟨C.hx, C.hb, C.hml, C.hown, C.hts⟩ (hM H.size) ⟨⟨rfl, rfl, hR.1, hR.2, gpay C.hts hF.1, List.mem_cons_self, C.hts _ hF.1, C.hts _ hF.2.1, hF.2.2.1, fun sig h => by have h2 := hF.2.2.2; rw [h] at h2; exact (Option.some.inj h2).symm, C.hts _ hlk⟩, C.hts _ hst⟩ ⟨gPc_blind, (fun U hU hW => ⟨rfl, by rw [hU], by rw [hU]; exact hP, va_K.moved hW.alike C.hK, by rw [hU]; exact C.envAt hS hW⟩)⟩ rfl hn hls rfl (lv_room hcat) hdg hf) hS (fun q _ h => C.sub hS q h) (fun q h => C.sub hS q h) (fun u t H1 locs1 ht hvm hw hB hz hk1 hS1 => kk u.1 u.2 H1 locs1 hw (by rw [← ht]; exact hB) hS1)
theorem gT_callSv (C : gC p s m args meth c cc nL own D cy ad A) (hP : gP D cy ad I L H) (hS : va_S A s.heap H locs) (hls : ls.size = nL) {y : MethodName} {bytes : ByteArray} {maxL index n : Nat} {rm : Room} {As : List Value} {post : MI → ML → Prop} {xp1 : String → MI → ML → Prop} {Qc : Array Value → State → Outcome → State → Prop} (hM : gTv l D cy ad y bytes maxL rm As I L post xp1) (hF : gF y bytes maxL none n) (hlk : Cond.methodLink own index y ∈ WS) (hst : Cond.static y ∈ WS) (hn : As.length = n) (hR : rm.frames + 1 ≤ R.frames ∧ 8 + (maxL + 11) + rm.locals ≤ R.locals) (hcat : (rest.map fun v => v.category).sum ≤ 8) (hf : cells + rm.cells ≤ R.cells ∧ slots + rm.slots ≤ R.slots) (hout : ∀ x ∈ c.exceptionTable.toList, False) (hxc : cells + rm.cells ≤ mc ∧ slots + rm.slots ≤ ms) (hxp : ∀ (E : String) (I1 : MI) (L1 : ML), xp1 E I1 L1 → xp E I1 L1) (hdg : decode cc pc = .ok (.invokestatic index, 3)) {st0 : List Value} (hst0 : st0 = (As.reverse ++ rest))
    (kk : ∀ (I1 : MI) (L1 : ML) (H1 : Heap) (locs1 : List Loc), post I1 L1 → gP D cy ad I1 L1 H1 → va_S A s.heap H1 locs1 → W p l e R s m args below meth c H1 locs1 (cells + rm.cells) (slots + rm.slots) (vx_MQ below Qc (gXC D cy ad A xp) args s mc ms A) (F0 m (pc + 3) ls rest)) : W p l e R s m args below meth c H locs cells slots (vx_MQ below Qc (gXC D cy ad A xp) args s mc ms A) (F0 m pc ls st0) := by
  subst hst0
  exact vx_callv (vx_runS (As := As) (rest := rest) ⟨C.hx, C.hb, C.hml, C.hown, C.hts⟩ (hM H.size) ⟨⟨rfl, rfl, hR.1, hR.2, gpay C.hts hF.1, List.mem_cons_self, C.hts _ hF.1, C.hts _ hF.2.1, hF.2.2.1, fun sig h => by have h2 := hF.2.2.2; rw [h] at h2; exact (Option.some.inj h2).symm, C.hts _ hlk⟩, C.hts _ hst⟩ ⟨gPc_blind, (fun U hU hW => ⟨rfl, by rw [hU], by rw [hU]; exact hP, va_K.moved hW.alike C.hK, by rw [hU]; exact C.envAt hS hW⟩)⟩ rfl hn hls rfl (lv_room hcat) hdg hf) hS (fun q _ h => C.sub hS q h) (fun q h => C.sub hS q h) (fun q _ h => C.sub hS q h) (fun E ce q9 u t H1 locs1 ht hvm hpx hBX hz hk1 hS1 hce hcv hcE => vx_out (fun x hx => (hout x hx).elim) C.hlk hce hcv hcE (fun t2 ht2 hv2 => ⟨u, trivial, ⟨hxp E u.1 u.2 hBX.1, by rw [ht2, ← ht]; exact hBX.2⟩, hS1.F ht2⟩) hS1.2.2 hxc.1 hxc.2) (fun u t H1 locs1 ht hvm hw hB hz hk1 hS1 => kk u.1 u.2 H1 locs1 hw (by rw [← ht]; exact hB) hS1)
theorem gM_callVNi (C : gC p s m args meth c cc nL own D cy ad A) (hP : gP D cy ad I L H) (hS : va_S A s.heap H locs) (hls : ls.size = nL) {y : MethodName} {bytes : ByteArray} {maxL index n : Nat} {ty : FieldType} {rm : Room} {b : Nat} {As : List Value} {post : Int32 → MI → ML → Prop} (hM : gMi l D cy ad y bytes maxL ty rm (.ref (ad b) :: As) I L post) (hF : gF y bytes maxL (some ty) n) {host : String} (hlk : Cond.methodLinkNest own index y host ∈ gNW) (hin : Cond.instanceMethod y ∈ WS) (hse : Cond.selects y.cls y y ∈ WS) (hbk : b < 154) {ci : Nat} {fs : List Value} {T : u_T} {N : Nat} (hbc : kct cy ad b (I b) (L b) = .inr (ci, fs)) (hcl : vwCl[ci]? = some (y.cls, T, N)) (hn : As.length = n) (hR : rm.frames + 1 ≤ R.frames ∧ 8 + (maxL + 11) + rm.locals ≤ R.locals) (hcat : (rest.map fun v => v.category).sum ≤ 8) (hf : cells + rm.cells ≤ R.cells ∧ slots + rm.slots ≤ R.slots) (hdg : decode cc pc = .ok (.invokevirtual index, 3)) {st0 : List Value} (hst0 : st0 = (As.reverse ++ .ref (ad b) :: rest))
    (kk : ∀ (r : Int32) (I1 : MI) (L1 : ML) (H1 : Heap) (locs1 : List Loc), post r I1 L1 → gP D cy ad I1 L1 H1 → va_S A s.heap H1 locs1 → W p l e R s m args below meth c H1 locs1 (cells + rm.cells) (slots + rm.slots) Q (F0 m (pc + 3) ls (.int r :: rest))) : W p l e R s m args below meth c H locs cells slots Q (F0 m pc ls st0) := by
  subst hst0
  exact va_calli (va_runVN (As := As) (rest := rest) ⟨C.hx, C.hb, C.hml, C.hown, C.hts⟩ (hM H.size) ⟨⟨⟨rfl, rfl, hR.1, hR.2, gpay C.hts hF.1, List.mem_cons_self⟩, C.hts _ hF.1, C.hts _ hF.2.1, hF.2.2.1, fun sig h => by have h2 := hF.2.2.2; rw [h] at h2; exact (Option.some.inj h2).symm, va_Nw.use rfl (C.hE.2.2.1 _ hlk)⟩, C.hts _ hin, C.hts _ hse⟩ ⟨gPc_blind, va_recv C.hK hP hcl (gw_k hbk hbc), (fun U hU hW => ⟨rfl, by rw [hU], by rw [hU]; exact hP, va_K.moved hW.alike C.hK, by rw [hU]; exact C.envAt hS hW⟩)⟩ rfl hn hls rfl (lv_room hcat) hdg hf) hS (fun q _ h => C.sub hS q h) (fun q h => C.sub hS q h) (fun r u t H1 locs1 ht hvm hw hB hz hk1 hS1 => kk r u.1 u.2 H1 locs1 hw (by rw [← ht]; exact hB) hS1)
theorem gM_callVNl (C : gC p s m args meth c cc nL own D cy ad A) (hP : gP D cy ad I L H) (hS : va_S A s.heap H locs) (hls : ls.size = nL) {y : MethodName} {bytes : ByteArray} {maxL index n : Nat} {ty : FieldType} {rm : Room} {b : Nat} {As : List Value} {post : Int64 → MI → ML → Prop} (hM : gMl l D cy ad y bytes maxL ty rm (.ref (ad b) :: As) I L post) (hF : gF y bytes maxL (some ty) n) {host : String} (hlk : Cond.methodLinkNest own index y host ∈ gNW) (hin : Cond.instanceMethod y ∈ WS) (hse : Cond.selects y.cls y y ∈ WS) (hbk : b < 154) {ci : Nat} {fs : List Value} {T : u_T} {N : Nat} (hbc : kct cy ad b (I b) (L b) = .inr (ci, fs)) (hcl : vwCl[ci]? = some (y.cls, T, N)) (hn : As.length = n) (hR : rm.frames + 1 ≤ R.frames ∧ 8 + (maxL + 11) + rm.locals ≤ R.locals) (hcat : (rest.map fun v => v.category).sum ≤ 8) (hf : cells + rm.cells ≤ R.cells ∧ slots + rm.slots ≤ R.slots) (hdg : decode cc pc = .ok (.invokevirtual index, 3)) {st0 : List Value} (hst0 : st0 = (As.reverse ++ .ref (ad b) :: rest))
    (kk : ∀ (r : Int64) (I1 : MI) (L1 : ML) (H1 : Heap) (locs1 : List Loc), post r I1 L1 → gP D cy ad I1 L1 H1 → va_S A s.heap H1 locs1 → W p l e R s m args below meth c H1 locs1 (cells + rm.cells) (slots + rm.slots) Q (F0 m (pc + 3) ls (.long r :: rest))) : W p l e R s m args below meth c H locs cells slots Q (F0 m pc ls st0) := by
  subst hst0
  exact va_calll (va_runVN (As := As) (rest := rest) ⟨C.hx, C.hb, C.hml, C.hown, C.hts⟩ (hM H.size) ⟨⟨⟨rfl, rfl, hR.1, hR.2, gpay C.hts hF.1, List.mem_cons_self⟩, C.hts _ hF.1, C.hts _ hF.2.1, hF.2.2.1, fun sig h => by have h2 := hF.2.2.2; rw [h] at h2; exact (Option.some.inj h2).symm, va_Nw.use rfl (C.hE.2.2.1 _ hlk)⟩, C.hts _ hin, C.hts _ hse⟩ ⟨gPc_blind, va_recv C.hK hP hcl (gw_k hbk hbc), (fun U hU hW => ⟨rfl, by rw [hU], by rw [hU]; exact hP, va_K.moved hW.alike C.hK, by rw [hU]; exact C.envAt hS hW⟩)⟩ rfl hn hls rfl (lv_room hcat) hdg hf) hS (fun q _ h => C.sub hS q h) (fun q h => C.sub hS q h) (fun r u t H1 locs1 ht hvm hw hB hz hk1 hS1 => kk r u.1 u.2 H1 locs1 hw (by rw [← ht]; exact hB) hS1)
theorem gM_callVNv (C : gC p s m args meth c cc nL own D cy ad A) (hP : gP D cy ad I L H) (hS : va_S A s.heap H locs) (hls : ls.size = nL) {y : MethodName} {bytes : ByteArray} {maxL index n : Nat} {rm : Room} {b : Nat} {As : List Value} {post : MI → ML → Prop} (hM : gMv l D cy ad y bytes maxL rm (.ref (ad b) :: As) I L post) (hF : gF y bytes maxL none n) {host : String} (hlk : Cond.methodLinkNest own index y host ∈ gNW) (hin : Cond.instanceMethod y ∈ WS) (hse : Cond.selects y.cls y y ∈ WS) (hbk : b < 154) {ci : Nat} {fs : List Value} {T : u_T} {N : Nat} (hbc : kct cy ad b (I b) (L b) = .inr (ci, fs)) (hcl : vwCl[ci]? = some (y.cls, T, N)) (hn : As.length = n) (hR : rm.frames + 1 ≤ R.frames ∧ 8 + (maxL + 11) + rm.locals ≤ R.locals) (hcat : (rest.map fun v => v.category).sum ≤ 8) (hf : cells + rm.cells ≤ R.cells ∧ slots + rm.slots ≤ R.slots) (hdg : decode cc pc = .ok (.invokevirtual index, 3)) {st0 : List Value} (hst0 : st0 = (As.reverse ++ .ref (ad b) :: rest))
    (kk : ∀ (I1 : MI) (L1 : ML) (H1 : Heap) (locs1 : List Loc), post I1 L1 → gP D cy ad I1 L1 H1 → va_S A s.heap H1 locs1 → W p l e R s m args below meth c H1 locs1 (cells + rm.cells) (slots + rm.slots) Q (F0 m (pc + 3) ls rest)) : W p l e R s m args below meth c H locs cells slots Q (F0 m pc ls st0) := by
  subst hst0
  exact va_callv (va_runVN (As := As) (rest := rest) ⟨C.hx, C.hb, C.hml, C.hown, C.hts⟩ (hM H.size) ⟨⟨⟨rfl, rfl, hR.1, hR.2, gpay C.hts hF.1, List.mem_cons_self⟩, C.hts _ hF.1, C.hts _ hF.2.1, hF.2.2.1, fun sig h => by have h2 := hF.2.2.2; rw [h] at h2; exact (Option.some.inj h2).symm, va_Nw.use rfl (C.hE.2.2.1 _ hlk)⟩, C.hts _ hin, C.hts _ hse⟩ ⟨gPc_blind, va_recv C.hK hP hcl (gw_k hbk hbc), (fun U hU hW => ⟨rfl, by rw [hU], by rw [hU]; exact hP, va_K.moved hW.alike C.hK, by rw [hU]; exact C.envAt hS hW⟩)⟩ rfl hn hls rfl (lv_room hcat) hdg hf) hS (fun q _ h => C.sub hS q h) (fun q h => C.sub hS q h) (fun u t H1 locs1 ht hvm hw hB hz hk1 hS1 => kk u.1 u.2 H1 locs1 hw (by rw [← ht]; exact hB) hS1)
theorem g_throwS (C : gC p s m args meth c cc nL RX3 D cy ad A) (hlf : l.stackTraces = false) (hP : gP D cy ad I L H) (hS : va_S A s.heap H locs) (hls : ls.size = nL) {cls text : String} {ik is ic : Nat} {Qc : Array Value → State → Outcome → State → Prop} (hcls : Bundle.fit cls = true) (hk : Cond.classLink RX3 ik cls ∈ WS) (hini : Cond.initialized cls ∈ WS) (hstr : (is, text) ∈ gST) (hg1 : ∀ w ∈ (vx_atS RX3 ic cls gXN).filter goodWord, w ∈ WS) (hg2 : ∀ w ∈ (vx_atS RX3 ic cls gXN).filter (fun w => !goodWord w), w ∈ gNX) (hg3 : (vx_atS RX3 ic cls gXN).all vx_ot = true)
    (d0 : decode cc pc = .ok (.new ik, 3)) (d3 : decode cc (pc + 3) = .ok (.dup, 1)) (d4 : decode cc (pc + 4) = .ok (.ldc is, 2)) (d6 : decode cc (pc + 6) = .ok (.invokespecial ic, 3)) (d9 : decode cc (pc + 9) = .ok (.athrow, 1)) (hout : ∀ x ∈ c.exceptionTable.toList, False) (hR : 5 < R.frames ∧ 90 ≤ R.locals) (hcat : (rest.map fun v => v.category).sum ≤ 8) (hf : cells + 1 ≤ R.cells ∧ slots + 6 ≤ R.slots) (hc : cells + 1 ≤ mc) (hs : slots + 6 ≤ ms) (hx : xp cls I L) :
    W p l e R s m args below meth c H locs cells slots (vx_MQ below Qc (gXC D cy ad A xp) args s mc ms A) (F0 m pc ls rest) := by
  obtain ⟨sa, hsa⟩ := C.hE.2.2.2.1 _ hstr
  refine vx_throwS (names := gXN) C.hx C.hb hlf C.hown hcls (by decide) (C.hts _ hk) (C.hts _ hini) hsa (vx_hat (fun w hw => C.hts w (hg1 w hw)) hg2 (fun w hw => va_Nw.use (gNX_on w hw) (C.hE.2.2.2.2.1 w hw)))
    (List.forall_mem_cons.mpr ⟨rfl, List.forall_mem_cons.mpr ⟨rfl, fun w hw => List.all_eq_true.mp hg3 w hw⟩⟩) C.hE.1 C.hE.2.1 hS (hls.trans C.hml.symm) d0 d3 d4 d6 d9 (fun x hx => (hout x hx).elim) hR.1 ?_ hf.1 hf.2 C.hlk
    (fun t hvm hz hk1 => ⟨(I, L), trivial, ⟨hx, hP.kept hk1⟩, ?_⟩) hS.2.2 hc hs
  · show _ + (13 * (2 + 1) + 43) ≤ _
    omega
  · exact ⟨Nat.le_trans hS.1 hz, fun q h1 h2 => (hk1 q (Nat.lt_of_lt_of_le h1 hS.1)).trans (hS.2.1 q h1 h2)⟩
theorem g_throwSW (C : gC p s m args meth c cc nL RX3 D cy ad A) (hlf : l.stackTraces = false) (hP : gP D cy ad I L H) (hS : va_S A s.heap H locs) (hls : ls.size = nL) {cls text : String} {ik is ic : Nat} {Qc : Array Value → State → Outcome → State → Prop} (hcls : Bundle.fit cls = true) (hk : Cond.classLink RX3 ik cls ∈ WS) (hini : Cond.initialized cls ∈ WS) (hstr : (is, text) ∈ gST) (hg1 : ∀ w ∈ (vx_atS RX3 ic cls gXN).filter goodWord, w ∈ WS) (hg2 : ∀ w ∈ (vx_atS RX3 ic cls gXN).filter (fun w => !goodWord w), w ∈ gNX) (hg3 : (vx_atS RX3 ic cls gXN).all vx_ot = true)
    (d0 : decode cc pc = .ok (.new ik, 3)) (d3 : decode cc (pc + 3) = .ok (.dup, 1)) (d4 : decode cc (pc + 4) = .ok (.ldc_w is, 3)) (d7 : decode cc (pc + 7) = .ok (.invokespecial ic, 3)) (d10 : decode cc (pc + 10) = .ok (.athrow, 1)) (hout : ∀ x ∈ c.exceptionTable.toList, False) (hR : 5 < R.frames ∧ 90 ≤ R.locals) (hcat : (rest.map fun v => v.category).sum ≤ 8) (hf : cells + 1 ≤ R.cells ∧ slots + 6 ≤ R.slots) (hc : cells + 1 ≤ mc) (hs : slots + 6 ≤ ms) (hx : xp cls I L) :
    W p l e R s m args below meth c H locs cells slots (vx_MQ below Qc (gXC D cy ad A xp) args s mc ms A) (F0 m pc ls rest) := by
  obtain ⟨sa, hsa⟩ := C.hE.2.2.2.1 _ hstr
  refine vx_throwSW (names := gXN) C.hx C.hb hlf C.hown hcls (by decide) (C.hts _ hk) (C.hts _ hini) hsa (vx_hat (fun w hw => C.hts w (hg1 w hw)) hg2 (fun w hw => va_Nw.use (gNX_on w hw) (C.hE.2.2.2.2.1 w hw)))
    (List.forall_mem_cons.mpr ⟨rfl, List.forall_mem_cons.mpr ⟨rfl, fun w hw => List.all_eq_true.mp hg3 w hw⟩⟩) C.hE.1 C.hE.2.1 hS (hls.trans C.hml.symm) d0 d3 d4 d7 d10 (fun x hx => (hout x hx).elim) hR.1 ?_ hf.1 hf.2 C.hlk
    (fun t hvm hz hk1 => ⟨(I, L), trivial, ⟨hx, hP.kept hk1⟩, ?_⟩) hS.2.2 hc hs
  · show _ + (13 * (2 + 1) + 43) ≤ _
    omega
  · exact ⟨Nat.le_trans hS.1 hz, fun q h1 h2 => (hk1 q (Nat.lt_of_lt_of_le h1 hS.1)).trans (hS.2.1 q h1 h2)⟩
end RT
def gR (d mc ms : Nat) : Room := { frames := 11 - d, cells := mc, slots := ms, locals := 440 - 34 * d }
theorem nI_mulE {x y : Int32} {a b : Nat} (hx : x = nI a) (hy : y = nI b) : x * y = nI (a * b) := by rw [hx, hy, pk_mul]
theorem nI_addE {x y : Int32} {a b : Nat} (hx : x = nI a) (hy : y = nI b) : x + y = nI (a + b) := by rw [hx, hy, nI_add]
theorem nI_subE {x y : Int32} {a b : Nat} (hx : x = nI a) (hy : y = nI b) (h : b ≤ a) : x - y = nI (a - b) := by rw [hx, hy, pk_sub h]
theorem nI_eqqE {x y : Int32} {a b : Nat} (hx : x = nI a) (hy : y = nI b) (ha : a < 2 ^ 31) (hb : b < 2 ^ 31) : x = y ↔ a = b := by rw [hx, hy, nI_eq ha hb]
theorem nI_lttE {x y : Int32} {a b : Nat} (hx : x = nI a) (hy : y = nI b) (ha : a < 2 ^ 31) (hb : b < 2 ^ 31) : x < y ↔ a < b := by rw [hx, hy, nI_ltI ha hb]
theorem nI_leeE {x y : Int32} {a b : Nat} (hx : x = nI a) (hy : y = nI b) (ha : a < 2 ^ 31) (hb : b < 2 ^ 31) : x ≤ y ↔ a ≤ b := by rw [hx, hy, nI_leI ha hb]
theorem nI_dec (n : Nat) : nI (n + 1) + Int32.ofInt (-1) = nI n := pk_m1 n
theorem vpA {x M : Int32} {n : Nat} (h1 : ¬ x < 0) (h2 : ¬ M ≤ x) (hM : M.toInt = n) : vp_in x n := by
  rw [vp_in_iff]
  have a1 : ¬ x.toInt < (0 : Int32).toInt := fun z => h1 (Int32.lt_iff_toInt_lt.mpr z)
  have a2 : ¬ M.toInt ≤ x.toInt := fun z => h2 (Int32.le_iff_toInt_le.mpr z)
  have a3 : (0 : Int32).toInt = 0 := rfl
  omega
theorem vpA2 {x M : Int32} {n : Nat} (h1 : ¬ x < 0) (h2 : x < M) (hM : M.toInt = n) : vp_in x n := vpA h1 (fun z => by
  have a1 := Int32.lt_iff_toInt_lt.mp h2
  have a2 := Int32.le_iff_toInt_le.mp z
  omega) hM
theorem vpA3 {x M : Int32} {n : Nat} (h1 : ¬ x < 0) (h2 : ¬ M < x) (hM : M.toInt + 1 = n) : vp_in x n := by
  rw [vp_in_iff]
  have a1 : ¬ x.toInt < (0 : Int32).toInt := fun z => h1 (Int32.lt_iff_toInt_lt.mpr z)
  have a2 : ¬ M.toInt < x.toInt := fun z => h2 (Int32.lt_iff_toInt_lt.mpr z)
  have a3 : (0 : Int32).toInt = 0 := rfl
  omega
theorem vpB {x M : Int32} {n : Nat} (h : M ≤ x) (hM : M.toInt = n) : ¬ vp_in x n := by
  rw [vp_in_iff]
  have a2 := Int32.le_iff_toInt_le.mp h
  omega
theorem vpB2 {x M : Int32} {n : Nat} (h : ¬ x < M) (hM : M.toInt = n) : ¬ vp_in x n := by
  rw [vp_in_iff]
  have a2 : ¬ x.toInt < M.toInt := fun z => h (Int32.lt_iff_toInt_lt.mpr z)
  omega
theorem vpB3 {x M : Int32} {n : Nat} (h : M < x) (hM : M.toInt + 1 = n) : ¬ vp_in x n := by
  rw [vp_in_iff]
  have a2 := Int32.lt_iff_toInt_lt.mp h
  omega
theorem vpA4 {x M : Int32} {n : Nat} (h1 : ¬ x < 0) (h2 : x ≤ M) (hM : M.toInt + 1 = n) : vp_in x n := by
  rw [vp_in_iff]
  have a1 : ¬ x.toInt < (0 : Int32).toInt := fun z => h1 (Int32.lt_iff_toInt_lt.mpr z)
  have a2 := Int32.le_iff_toInt_le.mp h2
  have a3 : (0 : Int32).toInt = 0 := rfl
  omega
theorem vpC {x : Int32} {n : Nat} (h : x < 0) : ¬ vp_in x n := by
  rw [vp_in_iff]
  have a2 := Int32.lt_iff_toInt_lt.mp h
  have a3 : (0 : Int32).toInt = 0 := rfl
  omega
theorem vp_ix {x : Int32} {n : Nat} (h : vp_in x n) : x = nI x.toNatClampNeg ∧ x.toNatClampNeg < n := by
  have h0 := vp_in_iff.mp h
  have h1 := Int32.toInt_lt x
  have h2 : (x.toNatClampNeg : Int) = x.toInt := by
    show ((x.toInt.toNat : Nat) : Int) = _
    omega
  refine ⟨?_, by omega⟩
  apply Int32.toInt_inj.mp
  rw [nI_toInt (by omega)]
  omega
theorem nI_vp {n N : Nat} (hn : n < 2 ^ 31) : vp_in (nI n) N ↔ n < N := by
  rw [vp_in_iff, nI_toInt hn]
  omega
theorem fa_X0_init : gF yX0_init cX0_init 1 none 0 := ⟨kc_X0_init, kini_X0, ⟨by decide +kernel, by decide +kernel⟩, by decide +kernel⟩
theorem fa_X0_fill : gF yX0_fill cX0_fill 7 none 5 := ⟨kc_X0_fill, kini_X0, ⟨by decide +kernel, by decide +kernel⟩, by decide +kernel⟩
theorem fa_X1_init : gF yX1_init cX1_init 1 none 0 := ⟨kc_X1_init, kini_X1, ⟨by decide +kernel, by decide +kernel⟩, by decide +kernel⟩
theorem fa_X1_isCertified : gF yX1_isCertified cX1_isCertified 1 (some .boolean) 0 := ⟨kc_X1_isCertified, kini_X1, ⟨by decide +kernel, by decide +kernel⟩, by decide +kernel⟩
theorem fa_X1_hasLineFor : gF yX1_hasLineFor cX1_hasLineFor 3 (some .boolean) 1 := ⟨kc_X1_hasLineFor, kini_X1, ⟨by decide +kernel, by decide +kernel⟩, by decide +kernel⟩
theorem fa_X1_appendLine : gF yX1_appendLine cX1_appendLine 3 none 2 := ⟨kc_X1_appendLine, kini_X1, ⟨by decide +kernel, by decide +kernel⟩, by decide +kernel⟩
theorem fa_X1_shareSum : gF yX1_shareSum cX1_shareSum 3 (some .int) 0 := ⟨kc_X1_shareSum, kini_X1, ⟨by decide +kernel, by decide +kernel⟩, by decide +kernel⟩
theorem fa_X1_computePostings : gF yX1_computePostings cX1_computePostings 7 none 2 := ⟨kc_X1_computePostings, kini_X1, ⟨by decide +kernel, by decide +kernel⟩, by decide +kernel⟩
theorem fa_X2_init : gF yX2_init cX2_init 1 none 0 := ⟨kc_X2_init, kini_X2, ⟨by decide +kernel, by decide +kernel⟩, by decide +kernel⟩
theorem fa_X2_isInUse : gF yX2_isInUse cX2_isInUse 1 (some .boolean) 0 := ⟨kc_X2_isInUse, kini_X2, ⟨by decide +kernel, by decide +kernel⟩, by decide +kernel⟩
theorem fa_X2_fill : gF yX2_fill cX2_fill 5 none 3 := ⟨kc_X2_fill, kini_X2, ⟨by decide +kernel, by decide +kernel⟩, by decide +kernel⟩
theorem fa_X2_clear : gF yX2_clear cX2_clear 1 none 0 := ⟨kc_X2_clear, kini_X2, ⟨by decide +kernel, by decide +kernel⟩, by decide +kernel⟩
theorem fa_X3_init : gF yX3_init cX3_init 2 none 0 := ⟨kc_X3_init, kini_X3, ⟨by decide +kernel, by decide +kernel⟩, by decide +kernel⟩
theorem fa_X3_draw : gF yX3_draw cX3_draw 4 (some .int) 2 := ⟨kc_X3_draw, kini_X3, ⟨by decide +kernel, by decide +kernel⟩, by decide +kernel⟩
theorem fa_X3_add : gF yX3_add cX3_add 5 (some .int) 3 := ⟨kc_X3_add, kini_X3, ⟨by decide +kernel, by decide +kernel⟩, by decide +kernel⟩
theorem fa_X3_certify : gF yX3_certify cX3_certify 4 none 2 := ⟨kc_X3_certify, kini_X3, ⟨by decide +kernel, by decide +kernel⟩, by decide +kernel⟩
theorem fa_X3_grant : gF yX3_grant cX3_grant 7 (some .boolean) 4 := ⟨kc_X3_grant, kini_X3, ⟨by decide +kernel, by decide +kernel⟩, by decide +kernel⟩
theorem fa_X3_floor : gF yX3_floor cX3_floor 7 (some .long) 3 := ⟨kc_X3_floor, kini_X3, ⟨by decide +kernel, by decide +kernel⟩, by decide +kernel⟩
theorem fa_X3_ask : gF yX3_ask cX3_ask 5 (some .int) 3 := ⟨kc_X3_ask, kini_X3, ⟨by decide +kernel, by decide +kernel⟩, by decide +kernel⟩
theorem fa_X3_approve : gF yX3_approve cX3_approve 5 (some .int) 2 := ⟨kc_X3_approve, kini_X3, ⟨by decide +kernel, by decide +kernel⟩, by decide +kernel⟩
theorem fa_X3_withdraw : gF yX3_withdraw cX3_withdraw 4 none 2 := ⟨kc_X3_withdraw, kini_X3, ⟨by decide +kernel, by decide +kernel⟩, by decide +kernel⟩
theorem fa_X3_reverse : gF yX3_reverse cX3_reverse 5 (some .int) 2 := ⟨kc_X3_reverse, kini_X3, ⟨by decide +kernel, by decide +kernel⟩, by decide +kernel⟩
theorem fa_X3_tamper : gF yX3_tamper cX3_tamper 6 (some .long) 2 := ⟨kc_X3_tamper, kini_X3, ⟨by decide +kernel, by decide +kernel⟩, by decide +kernel⟩
theorem fa_X3_sound : gF yX3_sound cX3_sound 1 (some .boolean) 0 := ⟨kc_X3_sound, kini_X3, ⟨by decide +kernel, by decide +kernel⟩, by decide +kernel⟩
theorem fa_X3_restore : gF yX3_restore cX3_restore 4 (some .int) 1 := ⟨kc_X3_restore, kini_X3, ⟨by decide +kernel, by decide +kernel⟩, by decide +kernel⟩
theorem fa_X3_balance : gF yX3_balance cX3_balance 2 (some .long) 1 := ⟨kc_X3_balance, kini_X3, ⟨by decide +kernel, by decide +kernel⟩, by decide +kernel⟩
theorem fa_X3_balanceAt : gF yX3_balanceAt cX3_balanceAt 3 (some .long) 2 := ⟨kc_X3_balanceAt, kini_X3, ⟨by decide +kernel, by decide +kernel⟩, by decide +kernel⟩
theorem fa_X3_entries : gF yX3_entries cX3_entries 1 (some .int) 0 := ⟨kc_X3_entries, kini_X3, ⟨by decide +kernel, by decide +kernel⟩, by decide +kernel⟩
theorem fa_X3_entry : gF yX3_entry cX3_entry 4 (some .int) 2 := ⟨kc_X3_entry, kini_X3, ⟨by decide +kernel, by decide +kernel⟩, by decide +kernel⟩
theorem fa_X3_amount : gF yX3_amount cX3_amount 2 (some .long) 1 := ⟨kc_X3_amount, kini_X3, ⟨by decide +kernel, by decide +kernel⟩, by decide +kernel⟩
theorem fa_X3_requested : gF yX3_requested cX3_requested 2 (some .int) 1 := ⟨kc_X3_requested, kini_X3, ⟨by decide +kernel, by decide +kernel⟩, by decide +kernel⟩
theorem fa_X3_mayRun : gF yX3_mayRun cX3_mayRun 4 (some .boolean) 2 := ⟨kc_X3_mayRun, kini_X3, ⟨by decide +kernel, by decide +kernel⟩, by decide +kernel⟩
theorem fa_X3_mayApprove : gF yX3_mayApprove cX3_mayApprove 3 (some .boolean) 2 := ⟨kc_X3_mayApprove, kini_X3, ⟨by decide +kernel, by decide +kernel⟩, by decide +kernel⟩
theorem fa_X3_fileRequest : gF yX3_fileRequest cX3_fileRequest 6 (some .int) 3 := ⟨kc_X3_fileRequest, kini_X3, ⟨by decide +kernel, by decide +kernel⟩, by decide +kernel⟩
theorem fa_X3_runAndLog : gF yX3_runAndLog cX3_runAndLog 11 (some .int) 5 := ⟨kc_X3_runAndLog, kini_X3, ⟨by decide +kernel, by decide +kernel⟩, by decide +kernel⟩
theorem fa_X3_negatePostings : gF yX3_negatePostings cX3_negatePostings 2 none 0 := ⟨kc_X3_negatePostings, kini_X3, ⟨by decide +kernel, by decide +kernel⟩, by decide +kernel⟩
theorem fa_X3_requireNoLineFails : gF yX3_requireNoLineFails cX3_requireNoLineFails 8 none 1 := ⟨kc_X3_requireNoLineFails, kini_X3, ⟨by decide +kernel, by decide +kernel⟩, by decide +kernel⟩
theorem fa_X3_countUnsoundBalances : gF yX3_countUnsoundBalances cX3_countUnsoundBalances 3 (some .int) 0 := ⟨kc_X3_countUnsoundBalances, kini_X3, ⟨by decide +kernel, by decide +kernel⟩, by decide +kernel⟩
theorem fa_X3_requireBooksTakeRun : gF yX3_requireBooksTakeRun cX3_requireBooksTakeRun 1 none 0 := ⟨kc_X3_requireBooksTakeRun, kini_X3, ⟨by decide +kernel, by decide +kernel⟩, by decide +kernel⟩
theorem fa_X3_requireMayRun : gF yX3_requireMayRun cX3_requireMayRun 3 none 2 := ⟨kc_X3_requireMayRun, kini_X3, ⟨by decide +kernel, by decide +kernel⟩, by decide +kernel⟩
theorem fa_X3_requireProcedure : gF yX3_requireProcedure cX3_requireProcedure 2 none 1 := ⟨kc_X3_requireProcedure, kini_X3, ⟨by decide +kernel, by decide +kernel⟩, by decide +kernel⟩
theorem fa_X3_requireRequest : gF yX3_requireRequest cX3_requireRequest 2 none 1 := ⟨kc_X3_requireRequest, kini_X3, ⟨by decide +kernel, by decide +kernel⟩, by decide +kernel⟩
theorem fa_X3_requireEntry : gF yX3_requireEntry cX3_requireEntry 2 none 1 := ⟨kc_X3_requireEntry, kini_X3, ⟨by decide +kernel, by decide +kernel⟩, by decide +kernel⟩
theorem fa_X3_isProcedure : gF yX3_isProcedure cX3_isProcedure 2 (some .boolean) 1 := ⟨kc_X3_isProcedure, kini_X3, ⟨by decide +kernel, by decide +kernel⟩, by decide +kernel⟩
theorem fa_X3_isUser : gF yX3_isUser cX3_isUser 1 (some .boolean) 1 := ⟨kc_X3_isUser, kini_X3, ⟨by decide +kernel, by decide +kernel⟩, by decide +kernel⟩
theorem fa_X3_isBeyondLimit : gF yX3_isBeyondLimit cX3_isBeyondLimit 2 (some .boolean) 1 := ⟨kc_X3_isBeyondLimit, kini_X3, ⟨by decide +kernel, by decide +kernel⟩, by decide +kernel⟩
theorem fa_X3_requireAccount : gF yX3_requireAccount cX3_requireAccount 1 none 1 := ⟨kc_X3_requireAccount, kini_X3, ⟨by decide +kernel, by decide +kernel⟩, by decide +kernel⟩
theorem fa_X3_requireUser : gF yX3_requireUser cX3_requireUser 1 none 1 := ⟨kc_X3_requireUser, kini_X3, ⟨by decide +kernel, by decide +kernel⟩, by decide +kernel⟩
theorem fa_X3_requireOfficer : gF yX3_requireOfficer cX3_requireOfficer 1 none 1 := ⟨kc_X3_requireOfficer, kini_X3, ⟨by decide +kernel, by decide +kernel⟩, by decide +kernel⟩
theorem fa_X3_requireShare : gF yX3_requireShare cX3_requireShare 1 none 1 := ⟨kc_X3_requireShare, kini_X3, ⟨by decide +kernel, by decide +kernel⟩, by decide +kernel⟩
theorem fa_X4_init : gF yX4_init cX4_init 2 none 0 := ⟨kc_X4_init, kini_X4, ⟨by decide +kernel, by decide +kernel⟩, by decide +kernel⟩
theorem fa_X4_thrown : gF yX4_thrown cX4_thrown 1 (some .int) 0 := ⟨kc_X4_thrown, kini_X4, ⟨by decide +kernel, by decide +kernel⟩, by decide +kernel⟩
theorem fa_X4_isOne : gF yX4_isOne cX4_isOne 1 (some .boolean) 1 := ⟨kc_X4_isOne, kini_X4, ⟨by decide +kernel, by decide +kernel⟩, by decide +kernel⟩
theorem fa_X4_isProcedure : gF yX4_isProcedure cX4_isProcedure 2 (some .boolean) 1 := ⟨kc_X4_isProcedure, kini_X4, ⟨by decide +kernel, by decide +kernel⟩, by decide +kernel⟩
theorem fa_X4_isOfficer : gF yX4_isOfficer cX4_isOfficer 1 (some .boolean) 1 := ⟨kc_X4_isOfficer, kini_X4, ⟨by decide +kernel, by decide +kernel⟩, by decide +kernel⟩
theorem fa_X4_isShare : gF yX4_isShare cX4_isShare 1 (some .boolean) 1 := ⟨kc_X4_isShare, kini_X4, ⟨by decide +kernel, by decide +kernel⟩, by decide +kernel⟩
theorem fa_X4_draw : gF yX4_draw cX4_draw 4 (some .int) 2 := ⟨kc_X4_draw, kini_X4, ⟨by decide +kernel, by decide +kernel⟩, by decide +kernel⟩
theorem fa_X4_hasLine : gF yX4_hasLine cX4_hasLine 5 (some .boolean) 2 := ⟨kc_X4_hasLine, kini_X4, ⟨by decide +kernel, by decide +kernel⟩, by decide +kernel⟩
theorem fa_X4_add : gF yX4_add cX4_add 4 (some .int) 3 := ⟨kc_X4_add, kini_X4, ⟨by decide +kernel, by decide +kernel⟩, by decide +kernel⟩
theorem fa_X4_allShares : gF yX4_allShares cX4_allShares 4 (some .int) 1 := ⟨kc_X4_allShares, kini_X4, ⟨by decide +kernel, by decide +kernel⟩, by decide +kernel⟩
theorem fa_X4_certify : gF yX4_certify cX4_certify 3 none 2 := ⟨kc_X4_certify, kini_X4, ⟨by decide +kernel, by decide +kernel⟩, by decide +kernel⟩
theorem fa_X4_grant : gF yX4_grant cX4_grant 6 (some .boolean) 4 := ⟨kc_X4_grant, kini_X4, ⟨by decide +kernel, by decide +kernel⟩, by decide +kernel⟩
theorem fa_X4_may : gF yX4_may cX4_may 3 (some .boolean) 2 := ⟨kc_X4_may, kini_X4, ⟨by decide +kernel, by decide +kernel⟩, by decide +kernel⟩
theorem fa_X4_mayRun : gF yX4_mayRun cX4_mayRun 3 (some .boolean) 2 := ⟨kc_X4_mayRun, kini_X4, ⟨by decide +kernel, by decide +kernel⟩, by decide +kernel⟩
theorem fa_X4_floor : gF yX4_floor cX4_floor 7 (some .long) 3 := ⟨kc_X4_floor, kini_X4, ⟨by decide +kernel, by decide +kernel⟩, by decide +kernel⟩
theorem fa_X4_findPosts : gF yX4_findPosts cX4_findPosts 7 none 2 := ⟨kc_X4_findPosts, kini_X4, ⟨by decide +kernel, by decide +kernel⟩, by decide +kernel⟩
theorem fa_X4_run : gF yX4_run cX4_run 11 (some .boolean) 3 := ⟨kc_X4_run, kini_X4, ⟨by decide +kernel, by decide +kernel⟩, by decide +kernel⟩
theorem fa_X4_logged : gF yX4_logged cX4_logged 9 (some .long) 2 := ⟨kc_X4_logged, kini_X4, ⟨by decide +kernel, by decide +kernel⟩, by decide +kernel⟩
theorem fa_X4_isSound : gF yX4_isSound cX4_isSound 3 (some .boolean) 0 := ⟨kc_X4_isSound, kini_X4, ⟨by decide +kernel, by decide +kernel⟩, by decide +kernel⟩
theorem fa_X4_sound : gF yX4_sound cX4_sound 1 (some .boolean) 0 := ⟨kc_X4_sound, kini_X4, ⟨by decide +kernel, by decide +kernel⟩, by decide +kernel⟩
theorem fa_X4_enter : gF yX4_enter cX4_enter 7 (some .int) 5 := ⟨kc_X4_enter, kini_X4, ⟨by decide +kernel, by decide +kernel⟩, by decide +kernel⟩
theorem fa_X4_freeRequest : gF yX4_freeRequest cX4_freeRequest 3 (some .int) 0 := ⟨kc_X4_freeRequest, kini_X4, ⟨by decide +kernel, by decide +kernel⟩, by decide +kernel⟩
theorem fa_X4_request : gF yX4_request cX4_request 6 (some .int) 3 := ⟨kc_X4_request, kini_X4, ⟨by decide +kernel, by decide +kernel⟩, by decide +kernel⟩
theorem fa_X4_ask : gF yX4_ask cX4_ask 6 (some .int) 3 := ⟨kc_X4_ask, kini_X4, ⟨by decide +kernel, by decide +kernel⟩, by decide +kernel⟩
theorem fa_X4_isRequest : gF yX4_isRequest cX4_isRequest 2 (some .boolean) 1 := ⟨kc_X4_isRequest, kini_X4, ⟨by decide +kernel, by decide +kernel⟩, by decide +kernel⟩
theorem fa_X4_mayApprove : gF yX4_mayApprove cX4_mayApprove 3 (some .boolean) 2 := ⟨kc_X4_mayApprove, kini_X4, ⟨by decide +kernel, by decide +kernel⟩, by decide +kernel⟩
theorem fa_X4_approve : gF yX4_approve cX4_approve 4 (some .int) 2 := ⟨kc_X4_approve, kini_X4, ⟨by decide +kernel, by decide +kernel⟩, by decide +kernel⟩
theorem fa_X4_withdraw : gF yX4_withdraw cX4_withdraw 3 none 2 := ⟨kc_X4_withdraw, kini_X4, ⟨by decide +kernel, by decide +kernel⟩, by decide +kernel⟩
theorem fa_X4_isEntry : gF yX4_isEntry cX4_isEntry 2 (some .boolean) 1 := ⟨kc_X4_isEntry, kini_X4, ⟨by decide +kernel, by decide +kernel⟩, by decide +kernel⟩
theorem fa_X4_reverse : gF yX4_reverse cX4_reverse 4 (some .int) 2 := ⟨kc_X4_reverse, kini_X4, ⟨by decide +kernel, by decide +kernel⟩, by decide +kernel⟩
theorem fa_X4_tamper : gF yX4_tamper cX4_tamper 4 (some .long) 2 := ⟨kc_X4_tamper, kini_X4, ⟨by decide +kernel, by decide +kernel⟩, by decide +kernel⟩
theorem fa_X4_restore : gF yX4_restore cX4_restore 6 (some .int) 1 := ⟨kc_X4_restore, kini_X4, ⟨by decide +kernel, by decide +kernel⟩, by decide +kernel⟩
theorem fa_X4_balance : gF yX4_balance cX4_balance 2 (some .long) 1 := ⟨kc_X4_balance, kini_X4, ⟨by decide +kernel, by decide +kernel⟩, by decide +kernel⟩
theorem fa_X4_balanceAt : gF yX4_balanceAt cX4_balanceAt 3 (some .long) 2 := ⟨kc_X4_balanceAt, kini_X4, ⟨by decide +kernel, by decide +kernel⟩, by decide +kernel⟩
theorem fa_X4_entries : gF yX4_entries cX4_entries 1 (some .int) 0 := ⟨kc_X4_entries, kini_X4, ⟨by decide +kernel, by decide +kernel⟩, by decide +kernel⟩
theorem fa_X4_entry : gF yX4_entry cX4_entry 3 (some .int) 2 := ⟨kc_X4_entry, kini_X4, ⟨by decide +kernel, by decide +kernel⟩, by decide +kernel⟩
theorem fa_X4_amount : gF yX4_amount cX4_amount 2 (some .long) 1 := ⟨kc_X4_amount, kini_X4, ⟨by decide +kernel, by decide +kernel⟩, by decide +kernel⟩
theorem fa_X4_requested : gF yX4_requested cX4_requested 2 (some .int) 1 := ⟨kc_X4_requested, kini_X4, ⟨by decide +kernel, by decide +kernel⟩, by decide +kernel⟩
