/-! from the law's entry to its end -/
section WS0
variable {p : Program} {e : Env} {s : State} {m : MethodId} {below : List Frame} {meth : Method} {c : Code} {l : Launch} {b Ln : Nat} {xs : Nat → Int32} {Q : State → Prop}
set_option maxRecDepth 100000 in
set_option maxHeartbeats 8000000 in
theorem law_start (hlf : l.stackTraces = false) (hLn : Ln ≤ 2560) (hx : p.tables.exec = Jvm.exec) (hb : c.code = cL_law) (hml : c.maxLocals = 8) (hown : s.vm.findClass RL = some m.cls) (hts : ∀ w ∈ lw_tbl, w.before #[Value.ref b] s = true) (hX : va_X b Ln xs s s.heap) (hbl : b < s.heap.size) (hlocks : meth.locks = false) (hgv : (Jvm.Cond.and given_1 narrow_1).before #[Value.ref b] s = true)
    (kend : ∀ (H : Heap) (locs : List Loc) (ls : Array Slot) (cells slots : Nat), va_S (fun q : Nat => s.heap.size ≤ q) s.heap H locs → cells ≤ 620044 → slots ≤ 7235973 → W p l e room_1 s m #[Value.ref b] below meth c H locs cells slots Q (F0 m 1371 ls [])) : W p l e room_1 s m #[Value.ref b] below meth c s.heap [] 0 0 Q (entryFrame m ([Value.ref b] : List Value).toArray 8) := by
  have hw : ∀ w ∈ WS, w.before #[Value.ref b] s = true := fun w h => hts w (List.mem_filter.mp h).1
  obtain ⟨D, cy, hK⟩ := st_K hts
  have hA : ∀ q : Nat, s.heap.size ≤ q → (fun q : Nat => s.heap.size ≤ q) q := fun _ h => h
  have Ci : iC p s m #[Value.ref b] meth c cL_law 8 RL D cy (fun q : Nat => s.heap.size ≤ q) := ⟨hx, hb, hml, hown, hw, hlocks, hK, hA, st_gIE hts⟩
  have hS : va_S (fun q : Nat => s.heap.size ≤ q) s.heap s.heap [] := va_S.rf
  have hP : va_P D vwCl [] s.heap := fun k q h => by simp at h
  have hD : va_D (fun q : Nat => s.heap.size ≤ q) [] := ⟨fun i j p q h => by simp at h, fun k q h => by simp at h⟩
  have hl := lv_entry ([.ref b]) (n := 8) (Nat.le_of_ble_eq_true rfl)
  rw [lg_entry_eq]
  generalize (lg_sl ([.ref b]) ++ List.replicate (8 - (lg_sl ([.ref b])).length) Slot.unset).toArray = ls at hl ⊢
  have hl : lv_has ls 8 [(0, .ref b)] := hl
  refine i_new (CN := RX3) (T := TX3) (N := 9) (ci := 3) (fs := [.null, .null, .null, .int 0, .null, .null, .int 0, .null, .null]) Ci hP hD hS inwX3 tyX3 tyX3_ok kcl_L_8 kinst_X3 kini_X3 rfl (fun j hj => by rcases (show j = 0 ∨ j = 1 ∨ j = 2 ∨ j = 3 ∨ j = 4 ∨ j = 5 ∨ j = 6 ∨ j = 7 ∨ j = 8 by omega) with rfl | rfl | rfl | rfl | rfl | rfl | rfl | rfl | rfl <;> rfl) (Nat.le_of_ble_eq_true rfl) (Nat.le_of_ble_eq_true rfl) dL_law_0 (fun q H0 hP0 hD0 hS0 => ?_)
  refine lv_dup hx hb dL_law_3 rfl ?_
  refine i_callI (ws := []) Ci hP0 hD0 hS0 hl.1 (ct_X3_init l D cy q) fa_X3_init rfl kl_L_75 ki_X3_init ⟨Nat.le_of_ble_eq_true rfl, Nat.le_of_ble_eq_true rfl⟩ (Nat.le_of_ble_eq_true rfl) ⟨Nat.le_of_ble_eq_true rfl, Nat.le_of_ble_eq_true rfl⟩ dL_law_4 (fun w1 H locs hsp hP hD hS => ?_)
  obtain ⟨aB, gB, T, hq0, hgB, hTl, hTS, rfl⟩ := hsp
  subst hq0
  refine lv_astore_n (lv' := [(1, .ref (aB 0)), (0, .ref b)]) hx hb dL_law_7 rfl hl (by decide) rfl (fun ls hl => ?_)
  refine i_new (CN := RX4) (T := TX4) (N := 20) (ci := 4) (fs := [.int 0, .null, .null, .int 0, .null, .null, .null, .null, .null, .int 0, .null, .null, .null, .null, .null, .null, .null, .null, .null, .null]) Ci hP hD hS inwX4 tyX4 tyX4_ok kcl_L_76 kinst_X4 kini_X4 rfl (fun j hj => by rcases (show j = 0 ∨ j = 1 ∨ j = 2 ∨ j = 3 ∨ j = 4 ∨ j = 5 ∨ j = 6 ∨ j = 7 ∨ j = 8 ∨ j = 9 ∨ j = 10 ∨ j = 11 ∨ j = 12 ∨ j = 13 ∨ j = 14 ∨ j = 15 ∨ j = 16 ∨ j = 17 ∨ j = 18 ∨ j = 19 by omega) with rfl | rfl | rfl | rfl | rfl | rfl | rfl | rfl | rfl | rfl | rfl | rfl | rfl | rfl | rfl | rfl | rfl | rfl | rfl | rfl <;> rfl) (Nat.le_of_ble_eq_true rfl) (Nat.le_of_ble_eq_true rfl) dL_law_8 (fun q2 H2 hP2 hD2 hS2 => ?_)
  refine lv_dup hx hb dL_law_11 rfl ?_
  refine i_callI (ws := hdB cy aB gB T) Ci hP2 hD2 hS2 hl.1 (ct_X4_init l D cy q2) fa_X4_init rfl kl_L_78 ki_X4_init ⟨Nat.le_of_ble_eq_true rfl, Nat.le_of_ble_eq_true rfl⟩ (Nat.le_of_ble_eq_true rfl) ⟨Nat.le_of_ble_eq_true rfl, Nat.le_of_ble_eq_true rfl⟩ dL_law_12 (fun w1 H locs hsp hP hD hS => ?_)
  obtain ⟨aM, f, g, hq0, hf, hg, rfl⟩ := hsp
  subst hq0
  refine lv_astore_n (lv' := [(2, .ref (aM 0)), (1, .ref (aB 0)), (0, .ref b)]) hx hb dL_law_15 rfl hl (by decide) rfl (fun ls hl => ?_)
  refine lv_iconst (v := 1) hx hb dL_law_16 (by decide) ?_
  refine i_newa (atype := .long) (ty := .long) Ci hP hD hS rfl 0 rfl kac_long (N' := 1) (a0 := (1, .inr (.inl (fun _ => 0)))) (fun cA => by rw [vp_cell_l]; rfl) (by decide) (by decide) (by decide) (Nat.le_of_ble_eq_true rfl) (Nat.le_of_ble_eq_true rfl) dL_law_17 (fun q3 H hP hD hS => ?_)
  refine lv_astore_n (lv' := [(3, .ref q3), (2, .ref (aM 0)), (1, .ref (aB 0)), (0, .ref b)]) hx hb dL_law_19 rfl hl (by decide) rfl (fun ls hl => ?_)
  refine lv_iconst (v := 0) hx hb dL_law_20 (by decide) ?_
  refine lv_istore (lv' := [(4, .int 0), (3, .ref q3), (2, .ref (aM 0)), (1, .ref (aB 0)), (0, .ref b)]) hx hb dL_law_21 hl (by decide) rfl (fun ls hl => ?_)
  have hP : va_P D vwCl (w9 cy aB aM f gB g T q3) H := hP
  have hD : va_D (fun q : Nat => s.heap.size ≤ q) (w9 cy aB aM f gB g T q3) := hD
  obtain ⟨hP, hD⟩ := w9_start hTS hTl hP hD
  have e0 : ad9 (w9 cy aB aM f gB g T q3) 0 = aB 0 := ad9_h (by decide)
  have e136 : ad9 (w9 cy aB aM f gB g T q3) 136 = aM 0 := ad9_M (k := 0) hTl (by decide)
  have e135 : ad9 (w9 cy aB aM f gB g T q3) 135 = q3 := adr_of (w9_o hTl)
  have hl : lv_has ls 8 [(4, .int 0), (3, .ref (ad9 (w9 cy aB aM f gB g T q3) 135)), (2, .ref (ad9 (w9 cy aB aM f gB g T q3) 136)), (1, .ref (ad9 (w9 cy aB aM f gB g T q3) 0)), (0, .ref b)] := by
    rw [e0, e136, e135]
    exact hl
  generalize ad9 (w9 cy aB aM f gB g T q3) = ad at hP hD hl
  have C : gC p s m #[Value.ref b] meth c cL_law 8 RL D cy ad (fun q : Nat => s.heap.size ≤ q) := ⟨hx, hb, hml, hown, hw, hlocks, hK, hD, hA, st_gE hts hgv (fun a h => Nat.not_le.mpr h)⟩
  refine W.widen (k := 160 + 5 * 0) (n := 1500 + 30 * 0) (Nat.le_of_ble_eq_true rfl) (Nat.le_of_ble_eq_true rfl) ?_
  exact law_loop C hD.1 hlf hX hbl (Nat.not_le.mpr hbl) hLn kend 2600 0 (by omega) (by omega) 0 0 (fun _ => 0) (I9 f) (L9 gB g) H locs ls (Inv.start hf hgB hg) hP hS (lv_sub hl [4, 3, 2, 1, 0] rfl)
end WS0
