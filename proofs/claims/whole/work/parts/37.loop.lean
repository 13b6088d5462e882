section LW
variable {p : Program} {l : Launch} {e : Env} {s : State} {m : MethodId} {b : Nat} {below : List Frame} {meth : Method} {c : Code} {H : Heap} {locs : List Loc} {cells slots : Nat} {Q : State → Prop}
variable {D : va_G} {cy : Nat → ClassId} {ad : Nat → Nat} {A : Nat → Prop} {I : MI} {L : ML} {ls : Array Slot} {Ln : Nat} {xs : Nat → Int32} {np ne : Nat} {lc : Nat → Nat} {iv : Int32}

theorem lp_in {Ln k : Nat} (h1 : Ln ≤ 2560) (h2 : k ≤ 513) (h : ¬ (Int32.ofNat Ln - 5) < nI (5 * k)) : 5 * k + 5 ≤ Ln := by
  have a1 : ¬ (Int32.ofNat Ln - 5).toInt < (nI (5 * k)).toInt := fun z => h (Int32.lt_iff_toInt_lt.mpr z)
  have a2 : (Int32.ofNat Ln).toInt = (Ln : Int) := nI_toInt (n := Ln) (by omega)
  have a3 : (5 : Int32).toInt = 5 := rfl
  rw [Int32.toInt_sub, a2, a3, Int.bmod_eq_of_le (by omega) (by omega), nI_toInt (by omega)] at a1
  omega
theorem lp_j {Ln k : Nat} (h1 : Ln ≤ 2560) (h : 5 * k + 5 ≤ Ln) {j : Nat} (hj : j < 5) : vp_in (nI (5 * k + j)) Ln := (nI_vp (by omega)).mpr (by omega)

set_option maxRecDepth 100000 in
set_option maxHeartbeats 8000000 in
theorem law_loop (C : gC p s m #[Value.ref b] meth c cL_law 8 RL D cy ad A) (hJ : gJ ad) (hlf : l.stackTraces = false) (hX : va_X b Ln xs s s.heap) (hbl : b < s.heap.size) (hbA : ¬ A b) (hLn : Ln ≤ 2560)
    (kend : ∀ (H : Heap) (locs : List Loc) (ls : Array Slot) (cells slots : Nat), va_S A s.heap H locs → cells ≤ 620044 → slots ≤ 7235973 → W p l e room_1 s m #[Value.ref b] below meth c H locs cells slots Q (F0 m 1371 ls [])) :
    ∀ (N k : Nat) (hf : Ln + 10 ≤ 5 * k + N) (hk : 5 * k ≤ Ln + 4) (np ne : Nat) (lc : Nat → Nat) (I : MI) (L : ML) (H : Heap) (locs : List Loc) (ls : Array Slot), Inv np ne lc I L → gP D cy ad I L H → va_S A s.heap H locs → lv_has ls 8 [(0, .ref b), (1, .ref (ad 0)), (2, .ref (ad 136)), (3, .ref (ad 135)), (4, .int (nI (5 * k)))] → W p l e room_1 s m #[Value.ref b] below meth c H locs (160 + 5 * k) (1500 + 30 * k) Q (F0 m 23 ls []) := by
  have hx := C.hx
  have hb := C.hb
  intro N
  induction N with
  | zero =>
    intro k hf hk
    omega
  | succ N ih =>
    intro k hf hk np ne lc I L H locs ls h hP hS hl
    refine lv_iload hx hb dL_law_23 (lv_at hl 4 rfl) ?_
    refine lv_aload_n hx hb dL_law_25 rfl (lv_at hl 0 rfl) ?_
    refine va_slen hx hb hX hbl hbA hS dL_law_26 ?_
    refine lv_iconst (v := 5) hx hb dL_law_27 (by decide) ?_
    refine lv_isub hx hb dL_law_28 ?_
    refine lv_icmp_gt (tgt := 1371) hx hb dL_law_29 (by decide) (fun c29 => kend _ _ _ _ _ hS (by omega) (by omega)) (fun c29 => ?_)
    have hin := lp_in hLn (by omega) c29
    have hj0 : vp_in (nI (5 * k)) Ln := lp_j hLn hin (j := 0) (by omega)
    have hj1 : vp_in (nI (5 * k) + 1) Ln := lp_j hLn hin (j := 1) (by omega) |> fun z => by rw [show nI (5 * k) + 1 = nI (5 * k + 1) from nI_add _ 1]; exact z
    have hj2 : vp_in (nI (5 * k) + 2) Ln := lp_j hLn hin (j := 2) (by omega) |> fun z => by rw [show nI (5 * k) + 2 = nI (5 * k + 2) from nI_add _ 2]; exact z
    have hj3 : vp_in (nI (5 * k) + 3) Ln := lp_j hLn hin (j := 3) (by omega) |> fun z => by rw [show nI (5 * k) + 3 = nI (5 * k + 3) from nI_add _ 3]; exact z
    have hj4 : vp_in (nI (5 * k) + 4) Ln := lp_j hLn hin (j := 4) (by omega) |> fun z => by rw [show nI (5 * k) + 4 = nI (5 * k + 4) from nI_add _ 4]; exact z
    have foot : ∀ (np ne : Nat) (lc : Nat → Nat) (I : MI) (L : ML) (H : Heap) (locs : List Loc) (ls : Array Slot), Inv np ne lc I L → gP D cy ad I L H → va_S A s.heap H locs → lv_has ls 8 [(0, .ref b), (1, .ref (ad 0)), (2, .ref (ad 136)), (3, .ref (ad 135)), (4, .int (nI (5 * k)))] → W p l e room_1 s m #[Value.ref b] below meth c H locs (160 + 5 * k + 5) (1500 + 30 * k + 30) Q (F0 m 1365 ls []) := by
      intro np ne lc I L H locs ls h hP hS hl
      refine lv_iinc (v := nI (5 * (k + 1))) (lv' := [(4, .int (nI (5 * (k + 1)))), (0, .ref b), (1, .ref (ad 0)), (2, .ref (ad 136)), (3, .ref (ad 135))]) hx hb dL_law_1365 hl (k := 4) rfl (nI_add (5 * k) 5) (by decide) rfl (fun ls hl => ?_)
      refine lv_goto (tgt := 23) hx hb dL_law_1368 (by decide) ?_
      refine W.widen (k := 160 + 5 * (k + 1)) (n := 1500 + 30 * (k + 1)) (by omega) (by omega) ?_
      exact ih (k + 1) (by omega) (by omega) np ne lc I L H locs ls h hP hS (lv_sub hl [1, 2, 3, 4, 0] rfl)
    refine lv_aload_n hx hb dL_law_32 rfl (lv_at hl 0 rfl) ?_
    refine lv_iload hx hb dL_law_33 (lv_at hl 4 rfl) ?_
    refine va_sld hx hb hX hbl hbA hS hj0 dL_law_35 ?_
    refine lv_bipush (v := 31) hx hb dL_law_36 (by decide) ?_
    refine lv_iand hx hb dL_law_38 ?_
    refine lv_topi (fun X eX => ?_)
    by_cases t0 : X = 0
    · have z : X.toInt = 0 := by rw [t0]; rfl
      refine lv_tableIn (tgt := 128) hx hb dL_law_39 (by omega) (by omega) (by rw [z]; rfl) (by decide) ?_
      exact law_draw C hJ hlf hX hbl hbA h hP hS hj1 hj2 hj3 hj4 hl (by omega) (by omega) foot
    by_cases t1 : X = 1
    · have z : X.toInt = 1 := by rw [t1]; rfl
      refine lv_tableIn (tgt := 196) hx hb dL_law_39 (by omega) (by omega) (by rw [z]; rfl) (by decide) ?_
      exact law_add C hJ hlf hX hbl hbA h hP hS hj1 hj2 hj3 hj4 hl (by omega) (by omega) foot
    by_cases t2 : X = 2
    · have z : X.toInt = 2 := by rw [t2]; rfl
      refine lv_tableIn (tgt := 276) hx hb dL_law_39 (by omega) (by omega) (by rw [z]; rfl) (by decide) ?_
      exact law_certify C hJ hlf hX hbl hbA h hP hS hj1 hj2 hj3 hj4 hl (by omega) (by omega) foot
    by_cases t3 : X = 3
    · have z : X.toInt = 3 := by rw [t3]; rfl
      refine lv_tableIn (tgt := 324) hx hb dL_law_39 (by omega) (by omega) (by rw [z]; rfl) (by decide) ?_
      exact law_grant C hJ hlf hX hbl hbA h hP hS hj1 hj2 hj3 hj4 hl (by omega) (by omega) foot
    by_cases t4 : X = 4
    · have z : X.toInt = 4 := by rw [t4]; rfl
      refine lv_tableIn (tgt := 439) hx hb dL_law_39 (by omega) (by omega) (by rw [z]; rfl) (by decide) ?_
      exact law_floor C hJ hlf hX hbl hbA h hP hS hj1 hj2 hj3 hj4 hl (by omega) (by omega) foot
    by_cases t5 : X = 5
    · have z : X.toInt = 5 := by rw [t5]; rfl
      refine lv_tableIn (tgt := 550) hx hb dL_law_39 (by omega) (by omega) (by rw [z]; rfl) (by decide) ?_
      exact law_ask C hJ hlf hX hbl hbA h hP hS hj1 hj2 hj3 hj4 hl (by omega) (by omega) foot
    by_cases t6 : X = 6
    · have z : X.toInt = 6 := by rw [t6]; rfl
      refine lv_tableIn (tgt := 662) hx hb dL_law_39 (by omega) (by omega) (by rw [z]; rfl) (by decide) ?_
      exact law_approve C hJ hlf hX hbl hbA h hP hS hj1 hj2 hj3 hj4 hl (by omega) (by omega) foot
    by_cases t7 : X = 7
    · have z : X.toInt = 7 := by rw [t7]; rfl
      refine lv_tableIn (tgt := 730) hx hb dL_law_39 (by omega) (by omega) (by rw [z]; rfl) (by decide) ?_
      exact law_withdraw C hJ hlf hX hbl hbA h hP hS hj1 hj2 hj3 hj4 hl (by omega) (by omega) foot
    by_cases t8 : X = 8
    · have z : X.toInt = 8 := by rw [t8]; rfl
      refine lv_tableIn (tgt := 778) hx hb dL_law_39 (by omega) (by omega) (by rw [z]; rfl) (by decide) ?_
      exact law_reverse C hJ hlf hX hbl hbA h hP hS hj1 hj2 hj3 hj4 hl (by omega) (by omega) foot
    by_cases t9 : X = 9
    · have z : X.toInt = 9 := by rw [t9]; rfl
      refine lv_tableIn (tgt := 846) hx hb dL_law_39 (by omega) (by omega) (by rw [z]; rfl) (by decide) ?_
      exact law_tamper C hJ hlf hX hbl hbA h hP hS hj1 hj2 hj3 hj4 hl (by omega) (by omega) foot
    by_cases t10 : X = 10
    · have z : X.toInt = 10 := by rw [t10]; rfl
      refine lv_tableIn (tgt := 945) hx hb dL_law_39 (by omega) (by omega) (by rw [z]; rfl) (by decide) ?_
      exact law_sound C hJ hlf hX hbl hbA h hP hS hj1 hj2 hj3 hj4 hl (by omega) (by omega) foot
    by_cases t11 : X = 11
    · have z : X.toInt = 11 := by rw [t11]; rfl
      refine lv_tableIn (tgt := 958) hx hb dL_law_39 (by omega) (by omega) (by rw [z]; rfl) (by decide) ?_
      exact law_restore C hJ hlf hX hbl hbA h hP hS hj1 hj2 hj3 hj4 hl (by omega) (by omega) foot
    by_cases t12 : X = 12
    · have z : X.toInt = 12 := by rw [t12]; rfl
      refine lv_tableIn (tgt := 1014) hx hb dL_law_39 (by omega) (by omega) (by rw [z]; rfl) (by decide) ?_
      exact law_balance C hJ hlf hX hbl hbA h hP hS hj1 hj2 hj3 hj4 hl (by omega) (by omega) foot
    by_cases t13 : X = 13
    · have z : X.toInt = 13 := by rw [t13]; rfl
      refine lv_tableIn (tgt := 1069) hx hb dL_law_39 (by omega) (by omega) (by rw [z]; rfl) (by decide) ?_
      exact law_balanceAt C hJ hlf hX hbl hbA h hP hS hj1 hj2 hj3 hj4 hl (by omega) (by omega) foot
    by_cases t14 : X = 14
    · have z : X.toInt = 14 := by rw [t14]; rfl
      refine lv_tableIn (tgt := 1136) hx hb dL_law_39 (by omega) (by omega) (by rw [z]; rfl) (by decide) ?_
      exact law_entries C hJ hlf hX hbl hbA h hP hS hj1 hj2 hj3 hj4 hl (by omega) (by omega) foot
    by_cases t15 : X = 15
    · have z : X.toInt = 15 := by rw [t15]; rfl
      refine lv_tableIn (tgt := 1149) hx hb dL_law_39 (by omega) (by omega) (by rw [z]; rfl) (by decide) ?_
      exact law_entry C hJ hlf hX hbl hbA h hP hS hj1 hj2 hj3 hj4 hl (by omega) (by omega) foot
    by_cases t16 : X = 16
    · have z : X.toInt = 16 := by rw [t16]; rfl
      refine lv_tableIn (tgt := 1217) hx hb dL_law_39 (by omega) (by omega) (by rw [z]; rfl) (by decide) ?_
      exact law_amount C hJ hlf hX hbl hbA h hP hS hj1 hj2 hj3 hj4 hl (by omega) (by omega) foot
    by_cases t17 : X = 17
    · have z : X.toInt = 17 := by rw [t17]; rfl
      refine lv_tableIn (tgt := 1272) hx hb dL_law_39 (by omega) (by omega) (by rw [z]; rfl) (by decide) ?_
      exact law_requested C hJ hlf hX hbl hbA h hP hS hj1 hj2 hj3 hj4 hl (by omega) (by omega) foot
    by_cases t18 : X = 18
    · have z : X.toInt = 18 := by rw [t18]; rfl
      refine lv_tableIn (tgt := 1328) hx hb dL_law_39 (by omega) (by omega) (by rw [z]; rfl) (by decide) ?_
      exact law_mayRun C hJ hlf hX hbl hbA h hP hS hj1 hj2 hj3 hj4 hl (by omega) (by omega) foot
    have y0 : X.toInt ≠ 0 := fun z => t0 (Int32.toInt_inj.mp (z.trans rfl))
    have y1 : X.toInt ≠ 1 := fun z => t1 (Int32.toInt_inj.mp (z.trans rfl))
    have y2 : X.toInt ≠ 2 := fun z => t2 (Int32.toInt_inj.mp (z.trans rfl))
    have y3 : X.toInt ≠ 3 := fun z => t3 (Int32.toInt_inj.mp (z.trans rfl))
    have y4 : X.toInt ≠ 4 := fun z => t4 (Int32.toInt_inj.mp (z.trans rfl))
    have y5 : X.toInt ≠ 5 := fun z => t5 (Int32.toInt_inj.mp (z.trans rfl))
    have y6 : X.toInt ≠ 6 := fun z => t6 (Int32.toInt_inj.mp (z.trans rfl))
    have y7 : X.toInt ≠ 7 := fun z => t7 (Int32.toInt_inj.mp (z.trans rfl))
    have y8 : X.toInt ≠ 8 := fun z => t8 (Int32.toInt_inj.mp (z.trans rfl))
    have y9 : X.toInt ≠ 9 := fun z => t9 (Int32.toInt_inj.mp (z.trans rfl))
    have y10 : X.toInt ≠ 10 := fun z => t10 (Int32.toInt_inj.mp (z.trans rfl))
    have y11 : X.toInt ≠ 11 := fun z => t11 (Int32.toInt_inj.mp (z.trans rfl))
    have y12 : X.toInt ≠ 12 := fun z => t12 (Int32.toInt_inj.mp (z.trans rfl))
    have y13 : X.toInt ≠ 13 := fun z => t13 (Int32.toInt_inj.mp (z.trans rfl))
    have y14 : X.toInt ≠ 14 := fun z => t14 (Int32.toInt_inj.mp (z.trans rfl))
    have y15 : X.toInt ≠ 15 := fun z => t15 (Int32.toInt_inj.mp (z.trans rfl))
    have y16 : X.toInt ≠ 16 := fun z => t16 (Int32.toInt_inj.mp (z.trans rfl))
    have y17 : X.toInt ≠ 17 := fun z => t17 (Int32.toInt_inj.mp (z.trans rfl))
    have y18 : X.toInt ≠ 18 := fun z => t18 (Int32.toInt_inj.mp (z.trans rfl))
    refine lv_tableOut (tgt := 1365) hx hb dL_law_39 (by omega) (by decide) ?_
    refine W.widen (k := 160 + 5 * k + 5) (n := 1500 + 30 * k + 30) (by omega) (by omega) ?_
    exact foot np ne lc I L H locs ls h hP hS hl
end LW
