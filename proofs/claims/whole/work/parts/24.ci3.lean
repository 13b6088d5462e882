set_option maxRecDepth 100000 in
set_option maxHeartbeats 4000000 in
theorem ct_X3_init (l : Launch) (D : va_G) (cy : Nat → ClassId) (b : Nat) : iM l D cy yX3_init cX3_init 2 (gR 2 134 913) [.ref b] [(b, .inr (3, [.null, .null, .null, .int 0, .null, .null, .int 0, .null, .null]))] (sB cy b) := by
  refine iM_of (by decide +kernel) kc_X3_init (Nat.le_of_ble_eq_true rfl) rfl (fun p e s m below meth c A ls C hnm hr hP hD hS hl => ?_)
  have hx := C.hx
  have hb := C.hb
  have hl : lv_has ls 2 [(0, .ref b)] := hl
  refine lv_aload_n hx hb dX3_init_0 rfl (lv_at hl 0 rfl) ?_
  refine i_obj C kl_X3_1 hl.1 (by decide) (by decide) dX3_init_1 ?_
  refine lv_aload_n hx hb dX3_init_4 rfl (lv_at hl 0 rfl) ?_
  refine lv_bipush (v := 8) hx hb dX3_init_5 (by decide) ?_
  refine i_newa (atype := .long) (ty := .long) C hP hD hS rfl 0 rfl kac_long (N' := 8) (a0 := (8, .inr (.inl (fun _ => 0)))) (fun cA => by rw [vp_cell_l]; rfl) (by decide) (by decide) (by decide) (show 0 + 1 ≤ 134 by omega) (show 0 + 8 ≤ 913 by omega) dX3_init_7 (fun q7 H hP hD hS => ?_)
  have hP : va_P D vwCl [(b, .inr (3, [.null, .null, .null, .int 0, .null, .null, .int 0, .null, .null])), (q7, eL cy 8 (fun _ => 0))] H := hP
  have hD : va_D A [(b, .inr (3, [.null, .null, .null, .int 0, .null, .null, .int 0, .null, .null])), (q7, eL cy 8 (fun _ => 0))] := hD
  refine va_putF (D := D) (cl := vwCl) C.hx C.hb C.hts inwX3 tyX3 tyX3_ok nmX3 C.hown C.hK hP hD hS 0 rfl rfl 0 (by decide) (C.hts _ kf_X3_9) (fun _ h => h) rfl hnm rfl (tyX3_ok 0 (by decide)) rfl rfl (Nat.le_of_ble_eq_true rfl) dX3_init_9 (fun H locs hP hD hS => ?_)
  have hP : va_P D vwCl [(b, .inr (3, [.ref q7, .null, .null, .int 0, .null, .null, .int 0, .null, .null])), (q7, eL cy 8 (fun _ => 0))] H := hP
  have hD : va_D A [(b, .inr (3, [.ref q7, .null, .null, .int 0, .null, .null, .int 0, .null, .null])), (q7, eL cy 8 (fun _ => 0))] := hD
  refine lv_aload_n hx hb dX3_init_12 rfl (lv_at hl 0 rfl) ?_
  refine lv_bipush (v := 8) hx hb dX3_init_13 (by decide) ?_
  refine i_newa (atype := .long) (ty := .long) C hP hD hS rfl 0 rfl kac_long (N' := 8) (a0 := (8, .inr (.inl (fun _ => 0)))) (fun cA => by rw [vp_cell_l]; rfl) (by decide) (by decide) (by decide) (show 1 + 1 ≤ 134 by omega) (show 8 + 8 ≤ 913 by omega) dX3_init_15 (fun q15 H hP hD hS => ?_)
  have hP : va_P D vwCl [(b, .inr (3, [.ref q7, .null, .null, .int 0, .null, .null, .int 0, .null, .null])), (q7, eL cy 8 (fun _ => 0)), (q15, eL cy 8 (fun _ => 0))] H := hP
  have hD : va_D A [(b, .inr (3, [.ref q7, .null, .null, .int 0, .null, .null, .int 0, .null, .null])), (q7, eL cy 8 (fun _ => 0)), (q15, eL cy 8 (fun _ => 0))] := hD
  refine va_putF (D := D) (cl := vwCl) C.hx C.hb C.hts inwX3 tyX3 tyX3_ok nmX3 C.hown C.hK hP hD hS 0 rfl rfl 1 (by decide) (C.hts _ kf_X3_13) (fun _ h => h) rfl hnm rfl (tyX3_ok 1 (by decide)) rfl rfl (Nat.le_of_ble_eq_true rfl) dX3_init_17 (fun H locs hP hD hS => ?_)
  have hP : va_P D vwCl [(b, .inr (3, [.ref q7, .ref q15, .null, .int 0, .null, .null, .int 0, .null, .null])), (q7, eL cy 8 (fun _ => 0)), (q15, eL cy 8 (fun _ => 0))] H := hP
  have hD : va_D A [(b, .inr (3, [.ref q7, .ref q15, .null, .int 0, .null, .null, .int 0, .null, .null])), (q7, eL cy 8 (fun _ => 0)), (q15, eL cy 8 (fun _ => 0))] := hD
  refine lv_aload_n hx hb dX3_init_20 rfl (lv_at hl 0 rfl) ?_
  refine lv_bipush (v := 10) hx hb dX3_init_21 (by decide) ?_
  refine i_newq (CN := "CertifiedBooks$Procedure") C hP hD hS 3 rfl kcl_X3_16 C.hE.2.1 (N' := 10) (by decide) (by decide) (by decide) (show 2 + 1 ≤ 134 by omega) (show 16 + 10 ≤ 913 by omega) dX3_init_23 (fun q23 H hP hD hS => ?_)
  have hP : va_P D vwCl [(b, .inr (3, [.ref q7, .ref q15, .null, .int 0, .null, .null, .int 0, .null, .null])), (q7, eL cy 8 (fun _ => 0)), (q15, eL cy 8 (fun _ => 0)), (q23, eF cy 3 10 (fun _ => none))] H := hP
  have hD : va_D A [(b, .inr (3, [.ref q7, .ref q15, .null, .int 0, .null, .null, .int 0, .null, .null])), (q7, eL cy 8 (fun _ => 0)), (q15, eL cy 8 (fun _ => 0)), (q23, eF cy 3 10 (fun _ => none))] := hD
  refine va_putF (D := D) (cl := vwCl) C.hx C.hb C.hts inwX3 tyX3 tyX3_ok nmX3 C.hown C.hK hP hD hS 0 rfl rfl 2 (by decide) (C.hts _ kf_X3_18) (fun _ h => h) rfl hnm rfl (tyX3_ok 2 (by decide)) rfl rfl (Nat.le_of_ble_eq_true rfl) dX3_init_26 (fun H locs hP hD hS => ?_)
  have hP : va_P D vwCl [(b, .inr (3, [.ref q7, .ref q15, .ref q23, .int 0, .null, .null, .int 0, .null, .null])), (q7, eL cy 8 (fun _ => 0)), (q15, eL cy 8 (fun _ => 0)), (q23, eF cy 3 10 (fun _ => none))] H := hP
  have hD : va_D A [(b, .inr (3, [.ref q7, .ref q15, .ref q23, .int 0, .null, .null, .int 0, .null, .null])), (q7, eL cy 8 (fun _ => 0)), (q15, eL cy 8 (fun _ => 0)), (q23, eF cy 3 10 (fun _ => none))] := hD
  refine lv_aload_n hx hb dX3_init_29 rfl (lv_at hl 0 rfl) ?_
  refine lv_iconst (v := 0) hx hb dX3_init_30 (by decide) ?_
  refine va_put (D := D) (cl := vwCl) C.hx C.hb C.hts inwX3 tyX3 tyX3_ok nmX3 C.hown C.hK hP hD hS 0 rfl rfl 3 (by decide) (C.hts _ kf_X3_22) (fun _ h => h) rfl (tyX3_ok 3 (by decide)) rfl rfl (Nat.le_of_ble_eq_true rfl) dX3_init_31 (fun H locs hP hD hS => ?_)
  have hP : va_P D vwCl [(b, .inr (3, [.ref q7, .ref q15, .ref q23, .int 0, .null, .null, .int 0, .null, .null])), (q7, eL cy 8 (fun _ => 0)), (q15, eL cy 8 (fun _ => 0)), (q23, eF cy 3 10 (fun _ => none))] H := hP
  have hD : va_D A [(b, .inr (3, [.ref q7, .ref q15, .ref q23, .int 0, .null, .null, .int 0, .null, .null])), (q7, eL cy 8 (fun _ => 0)), (q15, eL cy 8 (fun _ => 0)), (q23, eF cy 3 10 (fun _ => none))] := hD
  refine lv_aload_n hx hb dX3_init_34 rfl (lv_at hl 0 rfl) ?_
  refine lv_bipush (v := 6) hx hb dX3_init_35 (by decide) ?_
  refine i_newq (CN := "CertifiedBooks$Request") C hP hD hS 4 rfl kcl_X3_26 C.hE.2.2.1 (N' := 6) (by decide) (by decide) (by decide) (show 3 + 1 ≤ 134 by omega) (show 26 + 6 ≤ 913 by omega) dX3_init_37 (fun q37 H hP hD hS => ?_)
  have hP : va_P D vwCl [(b, .inr (3, [.ref q7, .ref q15, .ref q23, .int 0, .null, .null, .int 0, .null, .null])), (q7, eL cy 8 (fun _ => 0)), (q15, eL cy 8 (fun _ => 0)), (q23, eF cy 3 10 (fun _ => none)), (q37, eF cy 4 6 (fun _ => none))] H := hP
  have hD : va_D A [(b, .inr (3, [.ref q7, .ref q15, .ref q23, .int 0, .null, .null, .int 0, .null, .null])), (q7, eL cy 8 (fun _ => 0)), (q15, eL cy 8 (fun _ => 0)), (q23, eF cy 3 10 (fun _ => none)), (q37, eF cy 4 6 (fun _ => none))] := hD
  refine va_putF (D := D) (cl := vwCl) C.hx C.hb C.hts inwX3 tyX3 tyX3_ok nmX3 C.hown C.hK hP hD hS 0 rfl rfl 4 (by decide) (C.hts _ kf_X3_28) (fun _ h => h) rfl hnm rfl (tyX3_ok 4 (by decide)) rfl rfl (Nat.le_of_ble_eq_true rfl) dX3_init_40 (fun H locs hP hD hS => ?_)
  have hP : va_P D vwCl [(b, .inr (3, [.ref q7, .ref q15, .ref q23, .int 0, .ref q37, .null, .int 0, .null, .null])), (q7, eL cy 8 (fun _ => 0)), (q15, eL cy 8 (fun _ => 0)), (q23, eF cy 3 10 (fun _ => none)), (q37, eF cy 4 6 (fun _ => none))] H := hP
  have hD : va_D A [(b, .inr (3, [.ref q7, .ref q15, .ref q23, .int 0, .ref q37, .null, .int 0, .null, .null])), (q7, eL cy 8 (fun _ => 0)), (q15, eL cy 8 (fun _ => 0)), (q23, eF cy 3 10 (fun _ => none)), (q37, eF cy 4 6 (fun _ => none))] := hD
  refine lv_aload_n hx hb dX3_init_43 rfl (lv_at hl 0 rfl) ?_
  refine lv_bipush (v := 40) hx hb dX3_init_44 (by decide) ?_
  refine i_newq (CN := "CertifiedBooks$Entry") C hP hD hS 5 rfl kcl_X3_32 C.hE.2.2.2.1 (N' := 40) (by decide) (by decide) (by decide) (show 4 + 1 ≤ 134 by omega) (show 32 + 40 ≤ 913 by omega) dX3_init_46 (fun q46 H hP hD hS => ?_)
  have hP : va_P D vwCl [(b, .inr (3, [.ref q7, .ref q15, .ref q23, .int 0, .ref q37, .null, .int 0, .null, .null])), (q7, eL cy 8 (fun _ => 0)), (q15, eL cy 8 (fun _ => 0)), (q23, eF cy 3 10 (fun _ => none)), (q37, eF cy 4 6 (fun _ => none)), (q46, eF cy 5 40 (fun _ => none))] H := hP
  have hD : va_D A [(b, .inr (3, [.ref q7, .ref q15, .ref q23, .int 0, .ref q37, .null, .int 0, .null, .null])), (q7, eL cy 8 (fun _ => 0)), (q15, eL cy 8 (fun _ => 0)), (q23, eF cy 3 10 (fun _ => none)), (q37, eF cy 4 6 (fun _ => none)), (q46, eF cy 5 40 (fun _ => none))] := hD
  refine va_putF (D := D) (cl := vwCl) C.hx C.hb C.hts inwX3 tyX3 tyX3_ok nmX3 C.hown C.hK hP hD hS 0 rfl rfl 5 (by decide) (C.hts _ kf_X3_34) (fun _ h => h) rfl hnm rfl (tyX3_ok 5 (by decide)) rfl rfl (Nat.le_of_ble_eq_true rfl) dX3_init_49 (fun H locs hP hD hS => ?_)
  have hP : va_P D vwCl [(b, .inr (3, [.ref q7, .ref q15, .ref q23, .int 0, .ref q37, .ref q46, .int 0, .null, .null])), (q7, eL cy 8 (fun _ => 0)), (q15, eL cy 8 (fun _ => 0)), (q23, eF cy 3 10 (fun _ => none)), (q37, eF cy 4 6 (fun _ => none)), (q46, eF cy 5 40 (fun _ => none))] H := hP
  have hD : va_D A [(b, .inr (3, [.ref q7, .ref q15, .ref q23, .int 0, .ref q37, .ref q46, .int 0, .null, .null])), (q7, eL cy 8 (fun _ => 0)), (q15, eL cy 8 (fun _ => 0)), (q23, eF cy 3 10 (fun _ => none)), (q37, eF cy 4 6 (fun _ => none)), (q46, eF cy 5 40 (fun _ => none))] := hD
  refine lv_aload_n hx hb dX3_init_52 rfl (lv_at hl 0 rfl) ?_
  refine lv_iconst (v := 0) hx hb dX3_init_53 (by decide) ?_
  refine va_put (D := D) (cl := vwCl) C.hx C.hb C.hts inwX3 tyX3 tyX3_ok nmX3 C.hown C.hK hP hD hS 0 rfl rfl 6 (by decide) (C.hts _ kf_X3_38) (fun _ h => h) rfl (tyX3_ok 6 (by decide)) rfl rfl (Nat.le_of_ble_eq_true rfl) dX3_init_54 (fun H locs hP hD hS => ?_)
  have hP : va_P D vwCl [(b, .inr (3, [.ref q7, .ref q15, .ref q23, .int 0, .ref q37, .ref q46, .int 0, .null, .null])), (q7, eL cy 8 (fun _ => 0)), (q15, eL cy 8 (fun _ => 0)), (q23, eF cy 3 10 (fun _ => none)), (q37, eF cy 4 6 (fun _ => none)), (q46, eF cy 5 40 (fun _ => none))] H := hP
  have hD : va_D A [(b, .inr (3, [.ref q7, .ref q15, .ref q23, .int 0, .ref q37, .ref q46, .int 0, .null, .null])), (q7, eL cy 8 (fun _ => 0)), (q15, eL cy 8 (fun _ => 0)), (q23, eF cy 3 10 (fun _ => none)), (q37, eF cy 4 6 (fun _ => none)), (q46, eF cy 5 40 (fun _ => none))] := hD
  refine lv_aload_n hx hb dX3_init_57 rfl (lv_at hl 0 rfl) ?_
  refine lv_bipush (v := 41) hx hb dX3_init_58 (by decide) ?_
  refine lv_bipush (v := 8) hx hb dX3_init_60 (by decide) ?_
  refine i_mna2 C hP hD hS kcl_X3_41 (show 5 + 42 ≤ 134 by omega) (show 72 + 369 ≤ 913 by omega) dX3_init_62 (fun q62 T H hTl hT hP hD hS => ?_)
  have hP : va_P D vwCl ((b, .inr (3, [.ref q7, .ref q15, .ref q23, .int 0, .ref q37, .ref q46, .int 0, .null, .null])) :: (q7, eL cy 8 (fun _ => 0)) :: (q15, eL cy 8 (fun _ => 0)) :: (q23, eF cy 3 10 (fun _ => none)) :: (q37, eF cy 4 6 (fun _ => none)) :: (q46, eF cy 5 40 (fun _ => none)) :: (q62, eF cy 6 41 (rfs T 0 1 41)) :: T) H := hP
  have hD : va_D A ((b, .inr (3, [.ref q7, .ref q15, .ref q23, .int 0, .ref q37, .ref q46, .int 0, .null, .null])) :: (q7, eL cy 8 (fun _ => 0)) :: (q15, eL cy 8 (fun _ => 0)) :: (q23, eF cy 3 10 (fun _ => none)) :: (q37, eF cy 4 6 (fun _ => none)) :: (q46, eF cy 5 40 (fun _ => none)) :: (q62, eF cy 6 41 (rfs T 0 1 41)) :: T) := hD
  refine va_putF (D := D) (cl := vwCl) C.hx C.hb C.hts inwX3 tyX3 tyX3_ok nmX3 C.hown C.hK hP hD hS 0 rfl rfl 7 (by decide) (C.hts _ kf_X3_43) (fun _ h => h) rfl hnm rfl (tyX3_ok 7 (by decide)) rfl rfl (Nat.le_of_ble_eq_true rfl) dX3_init_66 (fun H locs hP hD hS => ?_)
  have hP : va_P D vwCl ((b, .inr (3, [.ref q7, .ref q15, .ref q23, .int 0, .ref q37, .ref q46, .int 0, .ref q62, .null])) :: (q7, eL cy 8 (fun _ => 0)) :: (q15, eL cy 8 (fun _ => 0)) :: (q23, eF cy 3 10 (fun _ => none)) :: (q37, eF cy 4 6 (fun _ => none)) :: (q46, eF cy 5 40 (fun _ => none)) :: (q62, eF cy 6 41 (rfs T 0 1 41)) :: T) H := hP
  have hD : va_D A ((b, .inr (3, [.ref q7, .ref q15, .ref q23, .int 0, .ref q37, .ref q46, .int 0, .ref q62, .null])) :: (q7, eL cy 8 (fun _ => 0)) :: (q15, eL cy 8 (fun _ => 0)) :: (q23, eF cy 3 10 (fun _ => none)) :: (q37, eF cy 4 6 (fun _ => none)) :: (q46, eF cy 5 40 (fun _ => none)) :: (q62, eF cy 6 41 (rfs T 0 1 41)) :: T) := hD
  refine lv_aload_n hx hb dX3_init_69 rfl (lv_at hl 0 rfl) ?_
  refine lv_iconst (v := 4) hx hb dX3_init_70 (by decide) ?_
  refine i_newa (atype := .long) (ty := .long) C hP hD hS rfl 0 rfl kac_long (N' := 4) (a0 := (4, .inr (.inl (fun _ => 0)))) (fun cA => by rw [vp_cell_l]; rfl) (by decide) (by decide) (by decide) (show 47 + 1 ≤ 134 by omega) (show 441 + 4 ≤ 913 by omega) dX3_init_71 (fun q71 H hP hD hS => ?_)
  have hP : va_P D vwCl ((b, .inr (3, [.ref q7, .ref q15, .ref q23, .int 0, .ref q37, .ref q46, .int 0, .ref q62, .null])) :: (q7, eL cy 8 (fun _ => 0)) :: (q15, eL cy 8 (fun _ => 0)) :: (q23, eF cy 3 10 (fun _ => none)) :: (q37, eF cy 4 6 (fun _ => none)) :: (q46, eF cy 5 40 (fun _ => none)) :: (q62, eF cy 6 41 (rfs T 0 1 41)) :: (T ++ [(q71, eL cy 4 (fun _ => 0))])) H := hP
  have hD : va_D A ((b, .inr (3, [.ref q7, .ref q15, .ref q23, .int 0, .ref q37, .ref q46, .int 0, .ref q62, .null])) :: (q7, eL cy 8 (fun _ => 0)) :: (q15, eL cy 8 (fun _ => 0)) :: (q23, eF cy 3 10 (fun _ => none)) :: (q37, eF cy 4 6 (fun _ => none)) :: (q46, eF cy 5 40 (fun _ => none)) :: (q62, eF cy 6 41 (rfs T 0 1 41)) :: (T ++ [(q71, eL cy 4 (fun _ => 0))])) := hD
  refine va_putF (D := D) (cl := vwCl) C.hx C.hb C.hts inwX3 tyX3 tyX3_ok nmX3 C.hown C.hK hP hD hS 0 rfl rfl 8 (by decide) (C.hts _ kf_X3_46) (fun _ h => h) rfl hnm rfl (tyX3_ok 8 (by decide)) rfl rfl (Nat.le_of_ble_eq_true rfl) dX3_init_73 (fun H locs hP hD hS => ?_)
  have hP : va_P D vwCl ((b, .inr (3, [.ref q7, .ref q15, .ref q23, .int 0, .ref q37, .ref q46, .int 0, .ref q62, .ref q71])) :: (q7, eL cy 8 (fun _ => 0)) :: (q15, eL cy 8 (fun _ => 0)) :: (q23, eF cy 3 10 (fun _ => none)) :: (q37, eF cy 4 6 (fun _ => none)) :: (q46, eF cy 5 40 (fun _ => none)) :: (q62, eF cy 6 41 (rfs T 0 1 41)) :: (T ++ [(q71, eL cy 4 (fun _ => 0))])) H := hP
  have hD : va_D A ((b, .inr (3, [.ref q7, .ref q15, .ref q23, .int 0, .ref q37, .ref q46, .int 0, .ref q62, .ref q71])) :: (q7, eL cy 8 (fun _ => 0)) :: (q15, eL cy 8 (fun _ => 0)) :: (q23, eF cy 3 10 (fun _ => none)) :: (q37, eF cy 4 6 (fun _ => none)) :: (q46, eF cy 5 40 (fun _ => none)) :: (q62, eF cy 6 41 (rfs T 0 1 41)) :: (T ++ [(q71, eL cy 4 (fun _ => 0))])) := hD
  obtain ⟨U, hUe, hUl, hU, h41, h6⟩ : ∃ U : va_W, (T ++ [(q71, eL cy 4 (fun _ => 0))]) = U ∧ U.length = 42 ∧ TS cy U ∧ adr U 41 = q71 ∧ rfs U 0 1 41 = rfs T 0 1 41 := ⟨_, rfl, by rw [List.length_append, hTl]; rfl, TS_1 hT (by omega) (by rw [hTl]; rfl), by rw [adr_r (by omega), hTl]; rfl, (rfs_k (fun j hj => by omega)).symm⟩
  rw [hUe] at hP hD
  generalize rfs T 0 1 41 = f6 at hP hD h6
  have hP : va_P D vwCl ((b, .inr (3, [.ref q7, .ref q15, .ref q23, .int 0, .ref q37, .ref q46, .int 0, .ref q62, .ref q71])) :: (q7, eL cy 8 (fun _ => 0)) :: (q15, eL cy 8 (fun _ => 0)) :: (q23, eF cy 3 10 (fun _ => none)) :: (q37, eF cy 4 6 (fun _ => none)) :: (q46, eF cy 5 40 (fun _ => none)) :: (q62, eF cy 6 41 f6) :: U) H := hP
  have hD : va_D A ((b, .inr (3, [.ref q7, .ref q15, .ref q23, .int 0, .ref q37, .ref q46, .int 0, .ref q62, .ref q71])) :: (q7, eL cy 8 (fun _ => 0)) :: (q15, eL cy 8 (fun _ => 0)) :: (q23, eF cy 3 10 (fun _ => none)) :: (q37, eF cy 4 6 (fun _ => none)) :: (q46, eF cy 5 40 (fun _ => none)) :: (q62, eF cy 6 41 f6) :: U) := hD
  refine lv_iconst (v := 0) hx hb dX3_init_76 (by decide) ?_
  refine lv_istore_n (lv' := [(1, .int 0), (0, .ref b)]) hx hb dX3_init_77 rfl hl (by decide) rfl (fun ls hl => ?_)
  have loop78 : ∀ (N i : Nat) (g9 : Nat → Int64) (hi : i ≤ 8) (hg78 : ∀ k, k < i → g9 k = -1000000000000) (hfu : 8 < i + N) (H : Heap) (locs : List Loc) (ls : Array Slot), va_P D vwCl ((b, .inr (3, [.ref q7, .ref q15, .ref q23, .int 0, .ref q37, .ref q46, .int 0, .ref q62, .ref q71])) :: (q7, eL cy 8 (fun _ => 0)) :: (q15, eL cy 8 g9) :: (q23, eF cy 3 10 (fun _ => none)) :: (q37, eF cy 4 6 (fun _ => none)) :: (q46, eF cy 5 40 (fun _ => none)) :: (q62, eF cy 6 41 f6) :: U) H → va_D A ((b, .inr (3, [.ref q7, .ref q15, .ref q23, .int 0, .ref q37, .ref q46, .int 0, .ref q62, .ref q71])) :: (q7, eL cy 8 (fun _ => 0)) :: (q15, eL cy 8 g9) :: (q23, eF cy 3 10 (fun _ => none)) :: (q37, eF cy 4 6 (fun _ => none)) :: (q46, eF cy 5 40 (fun _ => none)) :: (q62, eF cy 6 41 f6) :: U) → va_S A s.heap H locs → lv_has ls 2 [(0, .ref b), (1, .int (nI i))] → W p l e (gR 2 134 913) s m ([.ref b] : List Value).toArray below meth c H locs (48) (445) (MQ below (iQ D (sB cy b) A) ([.ref b] : List Value).toArray s 134 913 A) (F0 m 78 ls []) := by
    intro N
    induction N with
    | zero =>
      intro i g9 hi hg78 hfu
      exact absurd hfu (by omega)
    | succ N ih78 =>
      intro i g9 hi hg78 hfu H locs ls hP hD hS hl
      refine lv_iload_n hx hb dX3_init_78 rfl (lv_at hl 1 rfl) ?_
      refine lv_bipush (v := 8) hx hb dX3_init_79 (by decide) ?_
      refine lv_icmp_ge (tgt := 99) hx hb dX3_init_81 (by decide) (fun c81 => ?_) (fun c81 => ?_)
      · have n81 := (nI_leeE (show (8 : Int32) = nI 8 from rfl) rfl (by omega) (by omega)).mp c81
        have hgA : ∀ k, k < 8 → g9 k = -1000000000000 := fun k hk => hg78 k (by omega)
        refine lv_iconst (v := 0) hx hb dX3_init_99 (by decide) ?_
        refine lv_istore_n (lv' := [(1, .int 0), (0, .ref b)]) hx hb dX3_init_100 rfl hl (by decide) rfl (fun ls hl => ?_)
        have loop101 : ∀ (N i : Nat) (V3 : va_W) (f3 : Nat → Option Nat) (hi : i ≤ 10) (hl3 : V3.length = 42 + 4 * i) (ht3 : TS cy V3) (ha3 : adr V3 41 = q71) (hs3 : rfs V3 0 1 41 = f6) (hf3 : rfs V3 42 4 i = f3) (hfu : 10 < i + N) (H : Heap) (locs : List Loc) (ls : Array Slot), va_P D vwCl ((b, .inr (3, [.ref q7, .ref q15, .ref q23, .int 0, .ref q37, .ref q46, .int 0, .ref q62, .ref q71])) :: (q7, eL cy 8 (fun _ => 0)) :: (q15, eL cy 8 g9) :: (q23, eF cy 3 10 f3) :: (q37, eF cy 4 6 (fun _ => none)) :: (q46, eF cy 5 40 (fun _ => none)) :: (q62, eF cy 6 41 f6) :: V3) H → va_D A ((b, .inr (3, [.ref q7, .ref q15, .ref q23, .int 0, .ref q37, .ref q46, .int 0, .ref q62, .ref q71])) :: (q7, eL cy 8 (fun _ => 0)) :: (q15, eL cy 8 g9) :: (q23, eF cy 3 10 f3) :: (q37, eF cy 4 6 (fun _ => none)) :: (q46, eF cy 5 40 (fun _ => none)) :: (q62, eF cy 6 41 f6) :: V3) → va_S A s.heap H locs → lv_has ls 2 [(0, .ref b), (1, .int (nI i))] → W p l e (gR 2 134 913) s m ([.ref b] : List Value).toArray below meth c H locs (48 + 4 * i) (445 + 21 * i) (MQ below (iQ D (sB cy b) A) ([.ref b] : List Value).toArray s 134 913 A) (F0 m 101 ls []) := by
          intro N
          induction N with
          | zero =>
            intro i V3 f3 hi hl3 ht3 ha3 hs3 hf3 hfu
            exact absurd hfu (by omega)
          | succ N ih101 =>
            intro i V3 f3 hi hl3 ht3 ha3 hs3 hf3 hfu H locs ls hP hD hS hl
            refine lv_iload_n hx hb dX3_init_101 rfl (lv_at hl 1 rfl) ?_
            refine lv_bipush (v := 10) hx hb dX3_init_102 (by decide) ?_
            refine lv_icmp_ge (tgt := 126) hx hb dX3_init_104 (by decide) (fun c104 => ?_) (fun c104 => ?_)
            · have n104 := (nI_leeE (show (10 : Int32) = nI 10 from rfl) rfl (by omega) (by omega)).mp c104
              obtain rfl : i = 10 := by omega
              refine lv_iconst (v := 0) hx hb dX3_init_126 (by decide) ?_
              refine lv_istore_n (lv' := [(1, .int 0), (0, .ref b)]) hx hb dX3_init_127 rfl hl (by decide) rfl (fun ls hl => ?_)
              have loop128 : ∀ (N i : Nat) (V4 : va_W) (f4 : Nat → Option Nat) (hi : i ≤ 6) (hl4 : V4.length = 82 + 1 * i) (ht4 : TS cy V4) (ha4 : adr V4 41 = q71) (hs4 : rfs V4 0 1 41 = f6) (hc4_3 : rfs V4 42 4 10 = f3) (hf4 : rfs V4 82 1 i = f4) (hfu : 6 < i + N) (H : Heap) (locs : List Loc) (ls : Array Slot), va_P D vwCl ((b, .inr (3, [.ref q7, .ref q15, .ref q23, .int 0, .ref q37, .ref q46, .int 0, .ref q62, .ref q71])) :: (q7, eL cy 8 (fun _ => 0)) :: (q15, eL cy 8 g9) :: (q23, eF cy 3 10 f3) :: (q37, eF cy 4 6 f4) :: (q46, eF cy 5 40 (fun _ => none)) :: (q62, eF cy 6 41 f6) :: V4) H → va_D A ((b, .inr (3, [.ref q7, .ref q15, .ref q23, .int 0, .ref q37, .ref q46, .int 0, .ref q62, .ref q71])) :: (q7, eL cy 8 (fun _ => 0)) :: (q15, eL cy 8 g9) :: (q23, eF cy 3 10 f3) :: (q37, eF cy 4 6 f4) :: (q46, eF cy 5 40 (fun _ => none)) :: (q62, eF cy 6 41 f6) :: V4) → va_S A s.heap H locs → lv_has ls 2 [(0, .ref b), (1, .int (nI i))] → W p l e (gR 2 134 913) s m ([.ref b] : List Value).toArray below meth c H locs (88 + 1 * i) (655 + 3 * i) (MQ below (iQ D (sB cy b) A) ([.ref b] : List Value).toArray s 134 913 A) (F0 m 128 ls []) := by
                intro N
                induction N with
                | zero =>
                  intro i V4 f4 hi hl4 ht4 ha4 hs4 hc4_3 hf4 hfu
                  exact absurd hfu (by omega)
                | succ N ih128 =>
                  intro i V4 f4 hi hl4 ht4 ha4 hs4 hc4_3 hf4 hfu H locs ls hP hD hS hl
                  refine lv_iload_n hx hb dX3_init_128 rfl (lv_at hl 1 rfl) ?_
                  refine lv_bipush (v := 6) hx hb dX3_init_129 (by decide) ?_
                  refine lv_icmp_ge (tgt := 153) hx hb dX3_init_131 (by decide) (fun c131 => ?_) (fun c131 => ?_)
                  · have n131 := (nI_leeE (show (6 : Int32) = nI 6 from rfl) rfl (by omega) (by omega)).mp c131
                    obtain rfl : i = 6 := by omega
                    refine lv_iconst (v := 0) hx hb dX3_init_153 (by decide) ?_
                    refine lv_istore_n (lv' := [(1, .int 0), (0, .ref b)]) hx hb dX3_init_154 rfl hl (by decide) rfl (fun ls hl => ?_)
                    have loop155 : ∀ (N i : Nat) (V5 : va_W) (f5 : Nat → Option Nat) (hi : i ≤ 40) (hl5 : V5.length = 88 + 1 * i) (ht5 : TS cy V5) (ha5 : adr V5 41 = q71) (hs5 : rfs V5 0 1 41 = f6) (hc5_3 : rfs V5 42 4 10 = f3) (hc5_4 : rfs V5 82 1 6 = f4) (hf5 : rfs V5 88 1 i = f5) (hfu : 40 < i + N) (H : Heap) (locs : List Loc) (ls : Array Slot), va_P D vwCl ((b, .inr (3, [.ref q7, .ref q15, .ref q23, .int 0, .ref q37, .ref q46, .int 0, .ref q62, .ref q71])) :: (q7, eL cy 8 (fun _ => 0)) :: (q15, eL cy 8 g9) :: (q23, eF cy 3 10 f3) :: (q37, eF cy 4 6 f4) :: (q46, eF cy 5 40 f5) :: (q62, eF cy 6 41 f6) :: V5) H → va_D A ((b, .inr (3, [.ref q7, .ref q15, .ref q23, .int 0, .ref q37, .ref q46, .int 0, .ref q62, .ref q71])) :: (q7, eL cy 8 (fun _ => 0)) :: (q15, eL cy 8 g9) :: (q23, eF cy 3 10 f3) :: (q37, eF cy 4 6 f4) :: (q46, eF cy 5 40 f5) :: (q62, eF cy 6 41 f6) :: V5) → va_S A s.heap H locs → lv_has ls 2 [(0, .ref b), (1, .int (nI i))] → W p l e (gR 2 134 913) s m ([.ref b] : List Value).toArray below meth c H locs (94 + 1 * i) (673 + 6 * i) (MQ below (iQ D (sB cy b) A) ([.ref b] : List Value).toArray s 134 913 A) (F0 m 155 ls []) := by
                      intro N
                      induction N with
                      | zero =>
                        intro i V5 f5 hi hl5 ht5 ha5 hs5 hc5_3 hc5_4 hf5 hfu
                        exact absurd hfu (by omega)
                      | succ N ih155 =>
                        intro i V5 f5 hi hl5 ht5 ha5 hs5 hc5_3 hc5_4 hf5 hfu H locs ls hP hD hS hl
                        refine lv_iload_n hx hb dX3_init_155 rfl (lv_at hl 1 rfl) ?_
                        refine lv_bipush (v := 40) hx hb dX3_init_156 (by decide) ?_
                        refine lv_icmp_ge (tgt := 180) hx hb dX3_init_158 (by decide) (fun c158 => ?_) (fun c158 => ?_)
                        · have n158 := (nI_leeE (show (40 : Int32) = nI 40 from rfl) rfl (by omega) (by omega)).mp c158
                          obtain rfl : i = 40 := by omega
                          exact i_ret C hr hP hD hS (by decide) (by decide) dX3_init_180 ⟨fun j => [b, q7, q15, q23, q37, q46, q62].getD j 0, g9, V5, rfl, hgA, hl5, ht5, by rw [← ha5, ← hs5, ← hc5_3, ← hc5_4, ← hf5]; rfl⟩
                        · have n158 := (not_congr (nI_leeE (show (40 : Int32) = nI 40 from rfl) rfl (by omega) (by omega))).mp c158
                          refine lv_aload_n hx hb dX3_init_161 rfl (lv_at hl 0 rfl) ?_
                          refine va_get (D := D) (cl := vwCl) C.hx C.hb C.hts inwX3 C.hown C.hK hP 0 rfl rfl 5 (by decide) (C.hts _ kf_X3_34) (fun _ h => h) rfl dX3_init_162 ?_
                          refine lv_iload_n hx hb dX3_init_165 rfl (lv_at hl 1 rfl) ?_
                          refine i_new (CN := RX0) (T := TX0) (N := 6) (ci := 0) (fs := [.int 0, .long 0, .int 0, .int 0, .int 0, .int 0]) C hP hD hS inwX0 tyX0 tyX0_ok kcl_X3_32 kinst_X0 kini_X0 rfl (fun j hj => by rcases (show j = 0 ∨ j = 1 ∨ j = 2 ∨ j = 3 ∨ j = 4 ∨ j = 5 by omega) with rfl | rfl | rfl | rfl | rfl | rfl <;> rfl) (show 94 + 1 * i + 1 ≤ 134 by omega) (show 673 + 6 * i + 6 ≤ 913 by omega) dX3_init_166 (fun q H hP hD hS => ?_)
                          refine lv_dup hx hb dX3_init_169 rfl ?_
                          refine i_callN C hP hD hS hl.1 (ct_X0_init l D cy q) fa_X0_init rfl kn_m53 ki_X0_init (by decide) (Nat.le_of_ble_eq_true rfl) ⟨show 94 + 1 * i + 1 + 0 ≤ 134 by omega, show 673 + 6 * i + 6 + 0 ≤ 913 by omega⟩ dX3_init_170 (fun w1 H locs hsp hP hD hS => ?_)
                          obtain rfl := hsp
                          have hP : va_P D vwCl ((b, .inr (3, [.ref q7, .ref q15, .ref q23, .int 0, .ref q37, .ref q46, .int 0, .ref q62, .ref q71])) :: (q7, eL cy 8 (fun _ => 0)) :: (q15, eL cy 8 g9) :: (q23, eF cy 3 10 f3) :: (q37, eF cy 4 6 f4) :: (q46, eF cy 5 40 f5) :: (q62, eF cy 6 41 f6) :: (V5 ++ [((q, .inr (0, [.int (-1), .long 0, .int (-1), .int (-1), .int (-1), .int (-1)])) : Nat × va_E)])) H := hP
                          have hD : va_D A ((b, .inr (3, [.ref q7, .ref q15, .ref q23, .int 0, .ref q37, .ref q46, .int 0, .ref q62, .ref q71])) :: (q7, eL cy 8 (fun _ => 0)) :: (q15, eL cy 8 g9) :: (q23, eF cy 3 10 f3) :: (q37, eF cy 4 6 f4) :: (q46, eF cy 5 40 f5) :: (q62, eF cy 6 41 f6) :: (V5 ++ [((q, .inr (0, [.int (-1), .long 0, .int (-1), .int (-1), .int (-1), .int (-1)])) : Nat × va_E)])) := hD
                          refine va_astq (D := D) (cl := vwCl) C.hx C.hb C.hK hP hD hS 5 5 (V5.length + 7) 0 rfl rfl (show (V5 ++ [((q, .inr (0, [.int (-1), .long 0, .int (-1), .int (-1), .int (-1), .int (-1)])) : Nat × va_E)])[V5.length]? = some _ from app_at) rfl (vp_in_nI (n := i) (by omega) (by decide)) dX3_init_173 (fun H locs hP hD hS => ?_)
                          rw [nI_clamp (by omega)] at hP hD
                          refine lv_iinc (v := nI (i + 1)) (lv' := [(1, .int (nI (i + 1))), (0, .ref b)]) hx hb dX3_init_174 hl (k := 1) rfl (nI_1 _) (by decide) rfl (fun ls hl => ?_)
                          refine lv_goto (tgt := 155) hx hb dX3_init_177 (by decide) ?_
                          refine W.widen (k := 94 + 1 * (i + 1)) (n := 673 + 6 * (i + 1)) (show 94 + 1 * i + 1 + 0 ≤ _ by omega) (show 673 + 6 * i + 6 + 0 ≤ _ by omega) ?_
                          exact ih155 (i + 1) (V5 ++ [((q, .inr (0, [.int (-1), .long 0, .int (-1), .int (-1), .int (-1), .int (-1)])) : Nat × va_E)]) (va_up f5 i (some q)) (by omega) (by rw [List.length_append, hl5]; show 88 + 1 * i + 1 = _; omega) (TS_1 ht5 (by omega) (by rw [hl5]; unfold tsp; rw [if_neg (by omega), if_neg (by omega), if_neg (by omega), if_neg (by omega)])) (by rw [adr_l (by omega)]; exact ha5) (by rw [← rfs_k (fun j hj => by omega)]; exact hs5) (by rw [← rfs_k (fun j hj => by omega)]; exact hc5_3) (by rw [← rfs_k (fun j hj => by omega)]; exact hc5_4) (by rw [← hf5]; exact (rfs_s hl5 (fun j hj => by omega)).symm) (by omega) _ _ _ hP hD hS (lv_sub hl [1, 0] rfl)
                    skip
                    exact loop155 41 0 V4 (fun _ => none) (Nat.zero_le _) (by rw [hl4]) ht4 ha4 hs4 hc4_3 hf4 rfs_0 (by omega) _ _ _ hP hD hS (lv_sub hl [1, 0] rfl)
                  · have n131 := (not_congr (nI_leeE (show (6 : Int32) = nI 6 from rfl) rfl (by omega) (by omega))).mp c131
                    refine lv_aload_n hx hb dX3_init_134 rfl (lv_at hl 0 rfl) ?_
                    refine va_get (D := D) (cl := vwCl) C.hx C.hb C.hts inwX3 C.hown C.hK hP 0 rfl rfl 4 (by decide) (C.hts _ kf_X3_28) (fun _ h => h) rfl dX3_init_135 ?_
                    refine lv_iload_n hx hb dX3_init_138 rfl (lv_at hl 1 rfl) ?_
                    refine i_new (CN := RX2) (T := TX2) (N := 3) (ci := 2) (fs := [.int 0, .int 0, .long 0]) C hP hD hS inwX2 tyX2 tyX2_ok kcl_X3_26 kinst_X2 kini_X2 rfl (fun j hj => by rcases (show j = 0 ∨ j = 1 ∨ j = 2 by omega) with rfl | rfl | rfl <;> rfl) (show 88 + 1 * i + 1 ≤ 134 by omega) (show 655 + 3 * i + 3 ≤ 913 by omega) dX3_init_139 (fun q H hP hD hS => ?_)
                    refine lv_dup hx hb dX3_init_142 rfl ?_
                    refine i_callN C hP hD hS hl.1 (ct_X2_init l D cy q) fa_X2_init rfl kn_m52 ki_X2_init (by decide) (Nat.le_of_ble_eq_true rfl) ⟨show 88 + 1 * i + 1 + 0 ≤ 134 by omega, show 655 + 3 * i + 3 + 0 ≤ 913 by omega⟩ dX3_init_143 (fun w1 H locs hsp hP hD hS => ?_)
                    obtain rfl := hsp
                    have hP : va_P D vwCl ((b, .inr (3, [.ref q7, .ref q15, .ref q23, .int 0, .ref q37, .ref q46, .int 0, .ref q62, .ref q71])) :: (q7, eL cy 8 (fun _ => 0)) :: (q15, eL cy 8 g9) :: (q23, eF cy 3 10 f3) :: (q37, eF cy 4 6 f4) :: (q46, eF cy 5 40 (fun _ => none)) :: (q62, eF cy 6 41 f6) :: (V4 ++ [((q, .inr (2, [.int (-1), .int (-1), .long 0])) : Nat × va_E)])) H := hP
                    have hD : va_D A ((b, .inr (3, [.ref q7, .ref q15, .ref q23, .int 0, .ref q37, .ref q46, .int 0, .ref q62, .ref q71])) :: (q7, eL cy 8 (fun _ => 0)) :: (q15, eL cy 8 g9) :: (q23, eF cy 3 10 f3) :: (q37, eF cy 4 6 f4) :: (q46, eF cy 5 40 (fun _ => none)) :: (q62, eF cy 6 41 f6) :: (V4 ++ [((q, .inr (2, [.int (-1), .int (-1), .long 0])) : Nat × va_E)])) := hD
                    refine va_astq (D := D) (cl := vwCl) C.hx C.hb C.hK hP hD hS 4 4 (V4.length + 7) 2 rfl rfl (show (V4 ++ [((q, .inr (2, [.int (-1), .int (-1), .long 0])) : Nat × va_E)])[V4.length]? = some _ from app_at) rfl (vp_in_nI (n := i) (by omega) (by decide)) dX3_init_146 (fun H locs hP hD hS => ?_)
                    rw [nI_clamp (by omega)] at hP hD
                    refine lv_iinc (v := nI (i + 1)) (lv' := [(1, .int (nI (i + 1))), (0, .ref b)]) hx hb dX3_init_147 hl (k := 1) rfl (nI_1 _) (by decide) rfl (fun ls hl => ?_)
                    refine lv_goto (tgt := 128) hx hb dX3_init_150 (by decide) ?_
                    refine W.widen (k := 88 + 1 * (i + 1)) (n := 655 + 3 * (i + 1)) (show 88 + 1 * i + 1 + 0 ≤ _ by omega) (show 655 + 3 * i + 3 + 0 ≤ _ by omega) ?_
                    exact ih128 (i + 1) (V4 ++ [((q, .inr (2, [.int (-1), .int (-1), .long 0])) : Nat × va_E)]) (va_up f4 i (some q)) (by omega) (by rw [List.length_append, hl4]; show 82 + 1 * i + 1 = _; omega) (TS_1 ht4 (by omega) (by rw [hl4]; unfold tsp; rw [if_neg (by omega), if_neg (by omega), if_neg (by omega), if_pos (by omega)])) (by rw [adr_l (by omega)]; exact ha4) (by rw [← rfs_k (fun j hj => by omega)]; exact hs4) (by rw [← rfs_k (fun j hj => by omega)]; exact hc4_3) (by rw [← hf4]; exact (rfs_s hl4 (fun j hj => by omega)).symm) (by omega) _ _ _ hP hD hS (lv_sub hl [1, 0] rfl)
              skip
              exact loop128 7 0 V3 (fun _ => none) (Nat.zero_le _) (by rw [hl3]) ht3 ha3 hs3 hf3 rfs_0 (by omega) _ _ _ hP hD hS (lv_sub hl [1, 0] rfl)
            · have n104 := (not_congr (nI_leeE (show (10 : Int32) = nI 10 from rfl) rfl (by omega) (by omega))).mp c104
              refine lv_aload_n hx hb dX3_init_107 rfl (lv_at hl 0 rfl) ?_
              refine va_get (D := D) (cl := vwCl) C.hx C.hb C.hts inwX3 C.hown C.hK hP 0 rfl rfl 2 (by decide) (C.hts _ kf_X3_18) (fun _ h => h) rfl dX3_init_108 ?_
              refine lv_iload_n hx hb dX3_init_111 rfl (lv_at hl 1 rfl) ?_
              refine i_new (CN := RX1) (T := TX1) (N := 5) (ci := 1) (fs := [.null, .null, .int 0, .int 0, .null]) C hP hD hS inwX1 tyX1 tyX1_ok kcl_X3_16 kinst_X1 kini_X1 rfl (fun j hj => by rcases (show j = 0 ∨ j = 1 ∨ j = 2 ∨ j = 3 ∨ j = 4 by omega) with rfl | rfl | rfl | rfl | rfl <;> rfl) (show 48 + 4 * i + 1 ≤ 134 by omega) (show 445 + 21 * i + 5 ≤ 913 by omega) dX3_init_112 (fun q H hP hD hS => ?_)
              refine lv_dup hx hb dX3_init_115 rfl ?_
              refine i_callN C hP hD hS hl.1 (ct_X1_init l D cy q) fa_X1_init rfl kn_m51 ki_X1_init (by decide) (Nat.le_of_ble_eq_true rfl) ⟨show 48 + 4 * i + 1 + 3 ≤ 134 by omega, show 445 + 21 * i + 5 + 16 ≤ 913 by omega⟩ dX3_init_116 (fun w1 H locs hsp hP hD hS => ?_)
              obtain ⟨a1, a2, a3, rfl⟩ := hsp
              have hP : va_P D vwCl ((b, .inr (3, [.ref q7, .ref q15, .ref q23, .int 0, .ref q37, .ref q46, .int 0, .ref q62, .ref q71])) :: (q7, eL cy 8 (fun _ => 0)) :: (q15, eL cy 8 g9) :: (q23, eF cy 3 10 f3) :: (q37, eF cy 4 6 (fun _ => none)) :: (q46, eF cy 5 40 (fun _ => none)) :: (q62, eF cy 6 41 f6) :: (V3 ++ [(q, .inr (1, [.ref a1, .ref a2, .int 0, .int (-1), .ref a3])), (a1, eI cy 4 (fun _ => 0)), (a2, eI cy 4 (fun _ => 0)), (a3, eZ cy 8 (fun _ => 0))])) H := hP
              have hD : va_D A ((b, .inr (3, [.ref q7, .ref q15, .ref q23, .int 0, .ref q37, .ref q46, .int 0, .ref q62, .ref q71])) :: (q7, eL cy 8 (fun _ => 0)) :: (q15, eL cy 8 g9) :: (q23, eF cy 3 10 f3) :: (q37, eF cy 4 6 (fun _ => none)) :: (q46, eF cy 5 40 (fun _ => none)) :: (q62, eF cy 6 41 f6) :: (V3 ++ [(q, .inr (1, [.ref a1, .ref a2, .int 0, .int (-1), .ref a3])), (a1, eI cy 4 (fun _ => 0)), (a2, eI cy 4 (fun _ => 0)), (a3, eZ cy 8 (fun _ => 0))])) := hD
              refine va_astq (D := D) (cl := vwCl) C.hx C.hb C.hK hP hD hS 3 3 (V3.length + 7) 1 rfl rfl (show (V3 ++ [(q, .inr (1, [.ref a1, .ref a2, .int 0, .int (-1), .ref a3])), (a1, eI cy 4 (fun _ => 0)), (a2, eI cy 4 (fun _ => 0)), (a3, eZ cy 8 (fun _ => 0))])[V3.length]? = some _ from app_at) rfl (vp_in_nI (n := i) (by omega) (by decide)) dX3_init_119 (fun H locs hP hD hS => ?_)
              rw [nI_clamp (by omega)] at hP hD
              refine lv_iinc (v := nI (i + 1)) (lv' := [(1, .int (nI (i + 1))), (0, .ref b)]) hx hb dX3_init_120 hl (k := 1) rfl (nI_1 _) (by decide) rfl (fun ls hl => ?_)
              refine lv_goto (tgt := 101) hx hb dX3_init_123 (by decide) ?_
              refine W.widen (k := 48 + 4 * (i + 1)) (n := 445 + 21 * (i + 1)) (show 48 + 4 * i + 1 + 3 ≤ _ by omega) (show 445 + 21 * i + 5 + 16 ≤ _ by omega) ?_
              exact ih101 (i + 1) (V3 ++ [(q, .inr (1, [.ref a1, .ref a2, .int 0, .int (-1), .ref a3])), (a1, eI cy 4 (fun _ => 0)), (a2, eI cy 4 (fun _ => 0)), (a3, eZ cy 8 (fun _ => 0))]) (va_up f3 i (some q)) (by omega) (by rw [List.length_append, hl3]; show 42 + 4 * i + 4 = _; omega) (TS_4 ht3 i hl3 (by omega)) (by rw [adr_l (by omega)]; exact ha3) (by rw [← rfs_k (fun j hj => by omega)]; exact hs3) (by rw [← hf3]; exact (rfs_s hl3 (fun j hj => by omega)).symm) (by omega) _ _ _ hP hD hS (lv_sub hl [1, 0] rfl)
        skip
        exact loop101 11 0 U (fun _ => none) (Nat.zero_le _) (by rw [hUl]) hU h41 h6  rfs_0 (by omega) _ _ _ hP hD hS (lv_sub hl [1, 0] rfl)
      · have n81 := (not_congr (nI_leeE (show (8 : Int32) = nI 8 from rfl) rfl (by omega) (by omega))).mp c81
        refine lv_aload_n hx hb dX3_init_84 rfl (lv_at hl 0 rfl) ?_
        refine va_get (D := D) (cl := vwCl) C.hx C.hb C.hts inwX3 C.hown C.hK hP 0 rfl rfl 1 (by decide) (C.hts _ kf_X3_13) (fun _ h => h) rfl dX3_init_85 ?_
        refine lv_iload_n hx hb dX3_init_88 rfl (lv_at hl 1 rfl) ?_
        refine lv_ldc2 (v := (-1000000000000)) hx hb C.hown (C.hts _ kcn_X3_49) dX3_init_89 ?_
        refine va_last (D := D) (cl := vwCl) C.hx C.hb C.hK hP hD hS 2 0 rfl rfl (vp_in_nI (n := i) (by omega) (by decide)) dX3_init_92 (fun H locs hP hD hS => ?_)
        rw [nI_clamp (by omega)] at hP hD
        refine lv_iinc (v := nI (i + 1)) (lv' := [(1, .int (nI (i + 1))), (0, .ref b)]) hx hb dX3_init_93 hl (k := 1) rfl (nI_1 _) (by decide) rfl (fun ls hl => ?_)
        refine lv_goto (tgt := 78) hx hb dX3_init_96 (by decide) ?_
        exact ih78 (i + 1) _ (by omega) (upL_s hg78 rfl) (by omega) _ _ _ hP hD hS (lv_sub hl [1, 0] rfl)
  exact loop78 9 0 (fun _ => 0) (Nat.zero_le _) (fun _ h => absurd h (Nat.not_lt_zero _)) (by omega) _ _ _ hP hD hS (lv_sub hl [1, 0] rfl)
