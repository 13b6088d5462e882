def pq_X4_sound (lc : Nat → Nat) (ne : Nat) (I : MI) (L : ML) : Int32 → MI → ML → Prop := fun r I' L' => (gz (L 137) (glf (sI I 136 0 0) lc (L 145) ne) 8 = r ∧ (sI I 136 0 0) = I' ∧ (gSS (sI I 136 0 0) lc L ne 8) = L')
set_option maxRecDepth 100000 in
set_option maxHeartbeats 4000000 in
theorem ct_X4_sound (l : Launch) (D : va_G) (cy : Nat → ClassId) (ad : Nat → Nat) (hJ : gJ ad) (lc : Nat → Nat) (ne : Nat) (I : MI) (L : ML) (hme : I 136 9 = nI ne) (hme40 : ne ≤ 40) (hml : ∀ p, p < 10 → I 139 p = nI (lc p)) (hml4 : ∀ p, p < 10 → lc p ≤ 4) (hma : ∀ p, p < 10 → ∀ k, k < lc p → vp_in (I 141 (4 * p + k)) 8) (hmr : ∀ e, e < ne → vp_in (I 144 e) 10) : gMi l D cy ad yX4_sound cX4_sound 1 .boolean (gR 2 0 0) [.ref (ad 136)] I L (pq_X4_sound lc ne I L) := by
  refine gMi_of hJ (by decide +kernel) kc_X4_sound (Nat.le_of_ble_eq_true rfl) (fun p e s m below meth c A ls C hr hP hS hl => ?_)
  have hx := C.hx
  have hb := C.hb
  have hl : lv_has ls 1 [(0, .ref (ad 136))] := hl
  refine lv_aload_n hx hb dX4_sound_0 rfl (lv_at hl 0 rfl) ?_
  refine lv_iconst (v := 0) hx hb dX4_sound_1 (by decide) ?_
  refine g_putI (T := TX4) C hP hS 136 0 (by decide) rfl rfl inwX4 tyX4 tyX4_ok nmX4 (by decide) kf_X4_65 rfl rfl (by decide : 0 < 20) (by simp only [sI, va_up_self]; rfl) dX4_sound_2 (fun H locs hP hS => ?_)
  refine lv_aload_n hx hb dX4_sound_5 rfl (lv_at hl 0 rfl) ?_
  refine gM_callVi (As := []) (rest := []) C hP hS hl.1 (ct_X4_isSound l D cy ad hJ lc ne (sI I 136 0 0) L hme hme40 hml hml4 hma hmr) fa_X4_isSound kl_X4_111 ki_X4_isSound kse_X4_isSound (by decide) (T := TX4) rfl rfl rfl (by decide) (Nat.le_of_ble_eq_true rfl) (by decide) dX4_sound_6 rfl (fun r6 I6 L6 H locs hq hP hS => ?_)
  obtain ⟨rfl, rfl, rfl⟩ := hq
  exact gM_zret C hr gz_b hP hS (by decide) (by decide) dX4_sound_9 (⟨rfl, rfl, rfl⟩)
def pq_X4_enter (lc : Nat → Nat) (ne : Nat) (pp : Nat) (x1 : Int32) (x2 : Int64) (x4 : Int32) (x5 : Int32) (x6 : Int32) (I : MI) (L : ML) : Int32 → MI → ML → Prop := fun r I' L' => ((gz (L 137) (glf I lc (L 145) ne) 8) = 0 ∧ ((-1) : Int32) = r ∧ I = I' ∧ (gSS I lc L ne 8) = L') ∨ (¬ (gz (L 137) (glf I lc (L 145) ne) 8) = 0 ∧ ne = 40 ∧ ((-1) : Int32) = r ∧ I = I' ∧ (gSS I lc L ne 8) = L') ∨ (¬ (gz (L 137) (glf I lc (L 145) ne) 8) = 0 ∧ ¬ ne = 40 ∧ x6 < 0 ∧ (∀ k, k < (lc pp) → ¬ gfl (gmA I pp) ((gSS I lc L ne 8) 137) ((gSS I lc L ne 8) 138) (fun k => 1 * gpw x2 (gmS I pp) (lc pp) ((gSS I lc L ne 8) 153) k) k) ∧ x6 < 0 ∧ nI ne = r ∧ (sI (sI (sI (sI (sI (sI I 144 ne x1) 146 ne x4) 147 ne x5) 148 ne x6) 149 ne (-1)) 136 9 ((nI ne) + 1)) = I' ∧ (sL (gRM (va_up (gSS I lc L ne 8) 153 (gpw x2 (gmS I pp) (lc pp) ((gSS I lc L ne 8) 153))) (gmA I pp) (fun k => 1 * gpw x2 (gmS I pp) (lc pp) ((gSS I lc L ne 8) 153) k) (lc pp)) 145 ne x2) = L') ∨ (¬ (gz (L 137) (glf I lc (L 145) ne) 8) = 0 ∧ ¬ ne = 40 ∧ x6 < 0 ∧ (¬ (∀ k, k < (lc pp) → ¬ gfl (gmA I pp) ((gSS I lc L ne 8) 137) ((gSS I lc L ne 8) 138) (fun k => 1 * gpw x2 (gmS I pp) (lc pp) ((gSS I lc L ne 8) 153) k) k)) ∧ ((-1) : Int32) = r ∧ I = I' ∧ (va_up (gSS I lc L ne 8) 153 (gpw x2 (gmS I pp) (lc pp) ((gSS I lc L ne 8) 153))) = L') ∨ (¬ (gz (L 137) (glf I lc (L 145) ne) 8) = 0 ∧ ¬ ne = 40 ∧ ¬ x6 < 0 ∧ (∀ k, k < (lc pp) → ¬ gfl (gmA I pp) ((gSS I lc L ne 8) 137) ((gSS I lc L ne 8) 138) (fun k => (-1 : Int64) * gpw x2 (gmS I pp) (lc pp) ((gSS I lc L ne 8) 153) k) k) ∧ ¬ x6 < 0 ∧ nI ne = r ∧ (sI (sI (sI (sI (sI (sI (sI I 144 ne x1) 146 ne x4) 147 ne x5) 148 ne x6) 149 ne (-1)) 149 x6.toNatClampNeg (nI ne)) 136 9 ((nI ne) + 1)) = I' ∧ (sL (gRM (va_up (gSS I lc L ne 8) 153 (gpw x2 (gmS I pp) (lc pp) ((gSS I lc L ne 8) 153))) (gmA I pp) (fun k => (-1 : Int64) * gpw x2 (gmS I pp) (lc pp) ((gSS I lc L ne 8) 153) k) (lc pp)) 145 ne x2) = L') ∨ (¬ (gz (L 137) (glf I lc (L 145) ne) 8) = 0 ∧ ¬ ne = 40 ∧ ¬ x6 < 0 ∧ (¬ (∀ k, k < (lc pp) → ¬ gfl (gmA I pp) ((gSS I lc L ne 8) 137) ((gSS I lc L ne 8) 138) (fun k => (-1 : Int64) * gpw x2 (gmS I pp) (lc pp) ((gSS I lc L ne 8) 153) k) k)) ∧ ((-1) : Int32) = r ∧ I = I' ∧ (va_up (gSS I lc L ne 8) 153 (gpw x2 (gmS I pp) (lc pp) ((gSS I lc L ne 8) 153))) = L')
set_option maxRecDepth 100000 in
set_option maxHeartbeats 4000000 in
theorem ct_X4_enter (l : Launch) (D : va_G) (cy : Nat → ClassId) (ad : Nat → Nat) (hJ : gJ ad) (lc : Nat → Nat) (ne : Nat) (pp : Nat) (x1 : Int32) (x2 : Int64) (x4 : Int32) (x5 : Int32) (x6 : Int32) (I : MI) (L : ML) (hme : I 136 9 = nI ne) (hme40 : ne ≤ 40) (hml : ∀ p, p < 10 → I 139 p = nI (lc p)) (hml4 : ∀ p, p < 10 → lc p ≤ 4) (hma : ∀ p, p < 10 → ∀ k, k < lc p → vp_in (I 141 (4 * p + k)) 8) (hmr : ∀ e, e < ne → vp_in (I 144 e) 10) (hmd : ∀ p, p < 10 → gdis (gmA I p) (lc p)) (hx1 : x1 = nI pp) (hp : pp < 10) (hof : ¬ x6 < 0 → vp_in x6 40) : gMi l D cy ad yX4_enter cX4_enter 7 .int (gR 2 0 0) [.ref (ad 136), .int x1, .long x2, .int x4, .int x5, .int x6] I L (pq_X4_enter lc ne pp x1 x2 x4 x5 x6 I L) := by
  refine gMi_of hJ (by decide +kernel) kc_X4_enter (Nat.le_of_ble_eq_true rfl) (fun p e s m below meth c A ls C hr hP hS hl => ?_)
  have hx := C.hx
  have hb := C.hb
  have hl : lv_has ls 7 [(0, .ref (ad 136)), (1, .int x1), (2, .long x2), (4, .int x4), (5, .int x5), (6, .int x6)] := hl
  refine lv_aload_n hx hb dX4_enter_0 rfl (lv_at hl 0 rfl) ?_
  refine gM_callVi (As := []) (rest := []) C hP hS hl.1 (ct_X4_isSound l D cy ad hJ lc ne I L hme hme40 hml hml4 hma hmr) fa_X4_isSound kl_X4_111 ki_X4_isSound kse_X4_isSound (by decide) (T := TX4) rfl rfl rfl (by decide) (Nat.le_of_ble_eq_true rfl) (by decide) dX4_enter_1 rfl (fun r1 I1 L1 H locs hq hP hS => ?_)
  obtain ⟨rfl, rfl, rfl⟩ := hq
  refine lv_if_eq (tgt := 37) hx hb dX4_enter_4 (by decide) (fun c4 => ?_) (fun c4 => ?_)
  · refine lv_iconst (v := (-1)) hx hb dX4_enter_37 (by decide) ?_
    exact gM_iret C hr hP hS (by decide) (by decide) dX4_enter_38 (Or.inl (⟨c4, rfl, rfl, rfl⟩))
  · refine lv_aload_n hx hb dX4_enter_7 rfl (lv_at hl 0 rfl) ?_
    refine g_get (v := .int (nI ne)) (T := TX4) C hP 136 9 (by decide) rfl rfl inwX4 (by decide) kf_X4_104 (congrArg (fun z => some (Value.int z)) hme) dX4_enter_8 ?_
    refine lv_bipush (v := 40) hx hb dX4_enter_11 (by decide) ?_
    refine lv_icmp_eq (tgt := 37) hx hb dX4_enter_13 (by decide) (fun c13 => ?_) (fun c13 => ?_)
    · have n13 : ne = 40 := (nI_eqqE rfl (show (40 : Int32) = nI 40 from rfl) (by omega) (by omega)).mp c13
      refine lv_iconst (v := (-1)) hx hb dX4_enter_37 (by decide) ?_
      exact gM_iret C hr hP hS (by decide) (by decide) dX4_enter_38 (Or.inr (Or.inl (⟨c4, n13, rfl, rfl, rfl⟩)))
    · have n13 : ¬ ne = 40 := (not_congr (nI_eqqE rfl (show (40 : Int32) = nI 40 from rfl) (by omega) (by omega))).mp c13
      refine lv_aload_n hx hb dX4_enter_16 rfl (lv_at hl 0 rfl) ?_
      refine lv_iload_n hx hb dX4_enter_17 rfl (lv_at hl 1 rfl) ?_
      refine lv_lload_n hx hb dX4_enter_18 rfl (lv_at hl 2 rfl) ?_
      refine lv_iload hx hb dX4_enter_19 (lv_at hl 5 rfl) ?_
      refine lv_if_lt (tgt := 30) hx hb dX4_enter_21 (by decide) (fun c21 => ?_) (fun c21 => ?_)
      · refine lv_lconst (v := 1) hx hb dX4_enter_30 (by decide) ?_
        refine gM_callVi (As := [.int x1, .long x2, .long 1]) (rest := []) C hP hS hl.1 (ct_X4_run l D cy ad hJ pp (lc pp) x1 x2 1 I (gSS I lc L ne 8) hx1 (by omega) (hml pp (by omega)) (hml4 pp (by omega)) (hma pp (by omega)) (hmd pp (by omega))) fa_X4_run kl_X4_117 ki_X4_run kse_X4_run (by decide) (T := TX4) rfl rfl rfl (by decide) (Nat.le_of_ble_eq_true rfl) (by decide) dX4_enter_31 rfl (fun r31 I31 L31 H locs hq hP hS => ?_)
        rcases hq with ⟨h31_0, rfl, rfl, rfl⟩ | ⟨h31_0, rfl, rfl, rfl⟩
        · refine lv_if_ne (tgt := 39) hx hb dX4_enter_34 (by decide) (fun _ => ?_) (fun c => absurd c (by decide))
          refine lv_aload_n hx hb dX4_enter_39 rfl (lv_at hl 0 rfl) ?_
          refine g_get (v := .ref (ad 144)) (T := TX4) C hP 136 10 (by decide) rfl rfl inwX4 (by decide) kf_X4_33 rfl dX4_enter_40 ?_
          refine lv_aload_n hx hb dX4_enter_43 rfl (lv_at hl 0 rfl) ?_
          refine g_get (v := .int (nI ne)) (T := TX4) C hP 136 9 (by decide) rfl rfl inwX4 (by decide) kf_X4_104 (congrArg (fun z => some (Value.int z)) hme) dX4_enter_44 ?_
          refine lv_iload_n hx hb dX4_enter_47 rfl (lv_at hl 1 rfl) ?_
          refine g_iast C hP hS 144 40 (by decide) (fun _ _ => rfl) ne rfl (by omega) (by decide) dX4_enter_48 (fun H locs hP hS => ?_)
          refine lv_aload_n hx hb dX4_enter_49 rfl (lv_at hl 0 rfl) ?_
          refine g_get (v := .ref (ad 145)) (T := TX4) C hP 136 11 (by decide) rfl rfl inwX4 (by decide) kf_X4_36 rfl dX4_enter_50 ?_
          refine lv_aload_n hx hb dX4_enter_53 rfl (lv_at hl 0 rfl) ?_
          refine g_get (v := .int (nI ne)) (T := TX4) C hP 136 9 (by decide) rfl rfl inwX4 (by decide) kf_X4_104 (congrArg (fun z => some (Value.int z)) ((congrFun (sI_row (by decide)) _).trans hme)) dX4_enter_54 ?_
          refine lv_lload_n hx hb dX4_enter_57 rfl (lv_at hl 2 rfl) ?_
          refine g_last C hP hS 145 40 (by decide) (fun _ _ => rfl) ne rfl (by omega) (by decide) dX4_enter_58 (fun H locs hP hS => ?_)
          refine lv_aload_n hx hb dX4_enter_59 rfl (lv_at hl 0 rfl) ?_
          refine g_get (v := .ref (ad 146)) (T := TX4) C hP 136 12 (by decide) rfl rfl inwX4 (by decide) kf_X4_39 rfl dX4_enter_60 ?_
          refine lv_aload_n hx hb dX4_enter_63 rfl (lv_at hl 0 rfl) ?_
          refine g_get (v := .int (nI ne)) (T := TX4) C hP 136 9 (by decide) rfl rfl inwX4 (by decide) kf_X4_104 (congrArg (fun z => some (Value.int z)) ((congrFun (sI_row (by decide)) _).trans hme)) dX4_enter_64 ?_
          refine lv_iload hx hb dX4_enter_67 (lv_at hl 3 rfl) ?_
          refine g_iast C hP hS 146 40 (by decide) (fun _ _ => rfl) ne rfl (by omega) (by decide) dX4_enter_69 (fun H locs hP hS => ?_)
          refine lv_aload_n hx hb dX4_enter_70 rfl (lv_at hl 0 rfl) ?_
          refine g_get (v := .ref (ad 147)) (T := TX4) C hP 136 13 (by decide) rfl rfl inwX4 (by decide) kf_X4_42 rfl dX4_enter_71 ?_
          refine lv_aload_n hx hb dX4_enter_74 rfl (lv_at hl 0 rfl) ?_
          refine g_get (v := .int (nI ne)) (T := TX4) C hP 136 9 (by decide) rfl rfl inwX4 (by decide) kf_X4_104 (congrArg (fun z => some (Value.int z)) ((congrFun (sI_row (by decide)) _).trans ((congrFun (sI_row (by decide)) _).trans hme))) dX4_enter_75 ?_
          refine lv_iload hx hb dX4_enter_78 (lv_at hl 4 rfl) ?_
          refine g_iast C hP hS 147 40 (by decide) (fun _ _ => rfl) ne rfl (by omega) (by decide) dX4_enter_80 (fun H locs hP hS => ?_)
          refine lv_aload_n hx hb dX4_enter_81 rfl (lv_at hl 0 rfl) ?_
          refine g_get (v := .ref (ad 148)) (T := TX4) C hP 136 14 (by decide) rfl rfl inwX4 (by decide) kf_X4_45 rfl dX4_enter_82 ?_
          refine lv_aload_n hx hb dX4_enter_85 rfl (lv_at hl 0 rfl) ?_
          refine g_get (v := .int (nI ne)) (T := TX4) C hP 136 9 (by decide) rfl rfl inwX4 (by decide) kf_X4_104 (congrArg (fun z => some (Value.int z)) ((congrFun (sI_row (by decide)) _).trans ((congrFun (sI_row (by decide)) _).trans ((congrFun (sI_row (by decide)) _).trans hme)))) dX4_enter_86 ?_
          refine lv_iload hx hb dX4_enter_89 (lv_at hl 5 rfl) ?_
          refine g_iast C hP hS 148 40 (by decide) (fun _ _ => rfl) ne rfl (by omega) (by decide) dX4_enter_91 (fun H locs hP hS => ?_)
          refine lv_aload_n hx hb dX4_enter_92 rfl (lv_at hl 0 rfl) ?_
          refine g_get (v := .ref (ad 149)) (T := TX4) C hP 136 15 (by decide) rfl rfl inwX4 (by decide) kf_X4_48 rfl dX4_enter_93 ?_
          refine lv_aload_n hx hb dX4_enter_96 rfl (lv_at hl 0 rfl) ?_
          refine g_get (v := .int (nI ne)) (T := TX4) C hP 136 9 (by decide) rfl rfl inwX4 (by decide) kf_X4_104 (congrArg (fun z => some (Value.int z)) ((congrFun (sI_row (by decide)) _).trans ((congrFun (sI_row (by decide)) _).trans ((congrFun (sI_row (by decide)) _).trans ((congrFun (sI_row (by decide)) _).trans hme))))) dX4_enter_97 ?_
          refine lv_iconst (v := (-1)) hx hb dX4_enter_100 (by decide) ?_
          refine g_iast C hP hS 149 40 (by decide) (fun _ _ => rfl) ne rfl (by omega) (by decide) dX4_enter_101 (fun H locs hP hS => ?_)
          refine lv_iload hx hb dX4_enter_102 (lv_at hl 5 rfl) ?_
          refine lv_if_lt (tgt := 118) hx hb dX4_enter_104 (by decide) (fun c104 => ?_) (fun c104 => absurd c21 c104)
          refine lv_aload_n hx hb dX4_enter_118 rfl (lv_at hl 0 rfl) ?_
          refine lv_dup hx hb dX4_enter_119 rfl ?_
          refine g_get (v := .int (nI ne)) (T := TX4) C hP 136 9 (by decide) rfl rfl inwX4 (by decide) kf_X4_104 (congrArg (fun z => some (Value.int z)) ((congrFun (sI_row (by decide)) _).trans ((congrFun (sI_row (by decide)) _).trans ((congrFun (sI_row (by decide)) _).trans ((congrFun (sI_row (by decide)) _).trans ((congrFun (sI_row (by decide)) _).trans hme)))))) dX4_enter_120 ?_
          refine lv_iconst (v := 1) hx hb dX4_enter_123 (by decide) ?_
          refine lv_iadd hx hb dX4_enter_124 ?_
          refine g_putI (T := TX4) C hP hS 136 9 (by decide) rfl rfl inwX4 tyX4 tyX4_ok nmX4 (by decide) kf_X4_104 rfl rfl (by decide : 9 < 20) (by simp only [sI, va_up_self]; rfl) dX4_enter_125 (fun H locs hP hS => ?_)
          refine lv_aload_n hx hb dX4_enter_128 rfl (lv_at hl 0 rfl) ?_
          refine g_get (v := .int ((nI ne) + 1)) (T := TX4) C hP 136 9 (by decide) rfl rfl inwX4 (by decide) kf_X4_104 (congrArg (fun z => some (Value.int z)) sI_eq) dX4_enter_129 ?_
          refine lv_iconst (v := 1) hx hb dX4_enter_132 (by decide) ?_
          refine lv_isub hx hb dX4_enter_133 ?_
          rw [show nI ne + 1 - 1 = nI ne from (nI_subE (nI_addE rfl (show (1 : Int32) = nI 1 from rfl)) (show (1 : Int32) = nI 1 from rfl) (by omega)).trans (congrArg nI (by omega))]
          exact gM_iret C hr hP hS (by decide) (by decide) dX4_enter_134 (Or.inr (Or.inr (Or.inl (⟨c4, n13, c21, h31_0, c104, rfl, rfl, rfl⟩))))
        · refine lv_if_ne (tgt := 39) hx hb dX4_enter_34 (by decide) (fun c => absurd c (by decide)) (fun _ => ?_)
          refine lv_iconst (v := (-1)) hx hb dX4_enter_37 (by decide) ?_
          exact gM_iret C hr hP hS (by decide) (by decide) dX4_enter_38 (Or.inr (Or.inr (Or.inr (Or.inl (⟨c4, n13, c21, h31_0, rfl, rfl, rfl⟩)))))
      · refine lv_ldc2 (v := (-1)) hx hb C.hown (C.hts _ kcn_X4_115) dX4_enter_24 ?_
        refine lv_goto (tgt := 31) hx hb dX4_enter_27 (by decide) ?_
        refine gM_callVi (As := [.int x1, .long x2, .long (-1)]) (rest := []) C hP hS hl.1 (ct_X4_run l D cy ad hJ pp (lc pp) x1 x2 (-1 : Int64) I (gSS I lc L ne 8) hx1 (by omega) (hml pp (by omega)) (hml4 pp (by omega)) (hma pp (by omega)) (hmd pp (by omega))) fa_X4_run kl_X4_117 ki_X4_run kse_X4_run (by decide) (T := TX4) rfl rfl rfl (by decide) (Nat.le_of_ble_eq_true rfl) (by decide) dX4_enter_31 rfl (fun r31 I31 L31 H locs hq hP hS => ?_)
        rcases hq with ⟨h31_0, rfl, rfl, rfl⟩ | ⟨h31_0, rfl, rfl, rfl⟩
        · refine lv_if_ne (tgt := 39) hx hb dX4_enter_34 (by decide) (fun _ => ?_) (fun c => absurd c (by decide))
          refine lv_aload_n hx hb dX4_enter_39 rfl (lv_at hl 0 rfl) ?_
          refine g_get (v := .ref (ad 144)) (T := TX4) C hP 136 10 (by decide) rfl rfl inwX4 (by decide) kf_X4_33 rfl dX4_enter_40 ?_
          refine lv_aload_n hx hb dX4_enter_43 rfl (lv_at hl 0 rfl) ?_
          refine g_get (v := .int (nI ne)) (T := TX4) C hP 136 9 (by decide) rfl rfl inwX4 (by decide) kf_X4_104 (congrArg (fun z => some (Value.int z)) hme) dX4_enter_44 ?_
          refine lv_iload_n hx hb dX4_enter_47 rfl (lv_at hl 1 rfl) ?_
          refine g_iast C hP hS 144 40 (by decide) (fun _ _ => rfl) ne rfl (by omega) (by decide) dX4_enter_48 (fun H locs hP hS => ?_)
          refine lv_aload_n hx hb dX4_enter_49 rfl (lv_at hl 0 rfl) ?_
          refine g_get (v := .ref (ad 145)) (T := TX4) C hP 136 11 (by decide) rfl rfl inwX4 (by decide) kf_X4_36 rfl dX4_enter_50 ?_
          refine lv_aload_n hx hb dX4_enter_53 rfl (lv_at hl 0 rfl) ?_
          refine g_get (v := .int (nI ne)) (T := TX4) C hP 136 9 (by decide) rfl rfl inwX4 (by decide) kf_X4_104 (congrArg (fun z => some (Value.int z)) ((congrFun (sI_row (by decide)) _).trans hme)) dX4_enter_54 ?_
          refine lv_lload_n hx hb dX4_enter_57 rfl (lv_at hl 2 rfl) ?_
          refine g_last C hP hS 145 40 (by decide) (fun _ _ => rfl) ne rfl (by omega) (by decide) dX4_enter_58 (fun H locs hP hS => ?_)
          refine lv_aload_n hx hb dX4_enter_59 rfl (lv_at hl 0 rfl) ?_
          refine g_get (v := .ref (ad 146)) (T := TX4) C hP 136 12 (by decide) rfl rfl inwX4 (by decide) kf_X4_39 rfl dX4_enter_60 ?_
          refine lv_aload_n hx hb dX4_enter_63 rfl (lv_at hl 0 rfl) ?_
          refine g_get (v := .int (nI ne)) (T := TX4) C hP 136 9 (by decide) rfl rfl inwX4 (by decide) kf_X4_104 (congrArg (fun z => some (Value.int z)) ((congrFun (sI_row (by decide)) _).trans hme)) dX4_enter_64 ?_
          refine lv_iload hx hb dX4_enter_67 (lv_at hl 3 rfl) ?_
          refine g_iast C hP hS 146 40 (by decide) (fun _ _ => rfl) ne rfl (by omega) (by decide) dX4_enter_69 (fun H locs hP hS => ?_)
          refine lv_aload_n hx hb dX4_enter_70 rfl (lv_at hl 0 rfl) ?_
          refine g_get (v := .ref (ad 147)) (T := TX4) C hP 136 13 (by decide) rfl rfl inwX4 (by decide) kf_X4_42 rfl dX4_enter_71 ?_
          refine lv_aload_n hx hb dX4_enter_74 rfl (lv_at hl 0 rfl) ?_
          refine g_get (v := .int (nI ne)) (T := TX4) C hP 136 9 (by decide) rfl rfl inwX4 (by decide) kf_X4_104 (congrArg (fun z => some (Value.int z)) ((congrFun (sI_row (by decide)) _).trans ((congrFun (sI_row (by decide)) _).trans hme))) dX4_enter_75 ?_
          refine lv_iload hx hb dX4_enter_78 (lv_at hl 4 rfl) ?_
          refine g_iast C hP hS 147 40 (by decide) (fun _ _ => rfl) ne rfl (by omega) (by decide) dX4_enter_80 (fun H locs hP hS => ?_)
          refine lv_aload_n hx hb dX4_enter_81 rfl (lv_at hl 0 rfl) ?_
          refine g_get (v := .ref (ad 148)) (T := TX4) C hP 136 14 (by decide) rfl rfl inwX4 (by decide) kf_X4_45 rfl dX4_enter_82 ?_
          refine lv_aload_n hx hb dX4_enter_85 rfl (lv_at hl 0 rfl) ?_
          refine g_get (v := .int (nI ne)) (T := TX4) C hP 136 9 (by decide) rfl rfl inwX4 (by decide) kf_X4_104 (congrArg (fun z => some (Value.int z)) ((congrFun (sI_row (by decide)) _).trans ((congrFun (sI_row (by decide)) _).trans ((congrFun (sI_row (by decide)) _).trans hme)))) dX4_enter_86 ?_
          refine lv_iload hx hb dX4_enter_89 (lv_at hl 5 rfl) ?_
          refine g_iast C hP hS 148 40 (by decide) (fun _ _ => rfl) ne rfl (by omega) (by decide) dX4_enter_91 (fun H locs hP hS => ?_)
          refine lv_aload_n hx hb dX4_enter_92 rfl (lv_at hl 0 rfl) ?_
          refine g_get (v := .ref (ad 149)) (T := TX4) C hP 136 15 (by decide) rfl rfl inwX4 (by decide) kf_X4_48 rfl dX4_enter_93 ?_
          refine lv_aload_n hx hb dX4_enter_96 rfl (lv_at hl 0 rfl) ?_
          refine g_get (v := .int (nI ne)) (T := TX4) C hP 136 9 (by decide) rfl rfl inwX4 (by decide) kf_X4_104 (congrArg (fun z => some (Value.int z)) ((congrFun (sI_row (by decide)) _).trans ((congrFun (sI_row (by decide)) _).trans ((congrFun (sI_row (by decide)) _).trans ((congrFun (sI_row (by decide)) _).trans hme))))) dX4_enter_97 ?_
          refine lv_iconst (v := (-1)) hx hb dX4_enter_100 (by decide) ?_
          refine g_iast C hP hS 149 40 (by decide) (fun _ _ => rfl) ne rfl (by omega) (by decide) dX4_enter_101 (fun H locs hP hS => ?_)
          refine lv_iload hx hb dX4_enter_102 (lv_at hl 5 rfl) ?_
          refine lv_if_lt (tgt := 118) hx hb dX4_enter_104 (by decide) (fun c104 => absurd c104 c21) (fun c104 => ?_)
          obtain ⟨e107, l107⟩ := vp_ix (hof c104)
          refine lv_aload_n hx hb dX4_enter_107 rfl (lv_at hl 0 rfl) ?_
          refine g_get (v := .ref (ad 149)) (T := TX4) C hP 136 15 (by decide) rfl rfl inwX4 (by decide) kf_X4_48 rfl dX4_enter_108 ?_
          refine lv_iload hx hb dX4_enter_111 (lv_at hl 5 rfl) ?_
          refine lv_aload_n hx hb dX4_enter_113 rfl (lv_at hl 0 rfl) ?_
          refine g_get (v := .int (nI ne)) (T := TX4) C hP 136 9 (by decide) rfl rfl inwX4 (by decide) kf_X4_104 (congrArg (fun z => some (Value.int z)) ((congrFun (sI_row (by decide)) _).trans ((congrFun (sI_row (by decide)) _).trans ((congrFun (sI_row (by decide)) _).trans ((congrFun (sI_row (by decide)) _).trans ((congrFun (sI_row (by decide)) _).trans hme)))))) dX4_enter_114 ?_
          refine g_iast C hP hS 149 40 (by decide) (fun _ _ => rfl) x6.toNatClampNeg e107 (by omega) (by decide) dX4_enter_117 (fun H locs hP hS => ?_)
          refine lv_aload_n hx hb dX4_enter_118 rfl (lv_at hl 0 rfl) ?_
          refine lv_dup hx hb dX4_enter_119 rfl ?_
          refine g_get (v := .int (nI ne)) (T := TX4) C hP 136 9 (by decide) rfl rfl inwX4 (by decide) kf_X4_104 (congrArg (fun z => some (Value.int z)) ((congrFun (sI_row (by decide)) _).trans ((congrFun (sI_row (by decide)) _).trans ((congrFun (sI_row (by decide)) _).trans ((congrFun (sI_row (by decide)) _).trans ((congrFun (sI_row (by decide)) _).trans ((congrFun (sI_row (by decide)) _).trans hme))))))) dX4_enter_120 ?_
          refine lv_iconst (v := 1) hx hb dX4_enter_123 (by decide) ?_
          refine lv_iadd hx hb dX4_enter_124 ?_
          refine g_putI (T := TX4) C hP hS 136 9 (by decide) rfl rfl inwX4 tyX4 tyX4_ok nmX4 (by decide) kf_X4_104 rfl rfl (by decide : 9 < 20) (by simp only [sI, va_up_self]; rfl) dX4_enter_125 (fun H locs hP hS => ?_)
          refine lv_aload_n hx hb dX4_enter_128 rfl (lv_at hl 0 rfl) ?_
          refine g_get (v := .int ((nI ne) + 1)) (T := TX4) C hP 136 9 (by decide) rfl rfl inwX4 (by decide) kf_X4_104 (congrArg (fun z => some (Value.int z)) sI_eq) dX4_enter_129 ?_
          refine lv_iconst (v := 1) hx hb dX4_enter_132 (by decide) ?_
          refine lv_isub hx hb dX4_enter_133 ?_
          rw [show nI ne + 1 - 1 = nI ne from (nI_subE (nI_addE rfl (show (1 : Int32) = nI 1 from rfl)) (show (1 : Int32) = nI 1 from rfl) (by omega)).trans (congrArg nI (by omega))]
          exact gM_iret C hr hP hS (by decide) (by decide) dX4_enter_134 (Or.inr (Or.inr (Or.inr (Or.inr (Or.inl (⟨c4, n13, c21, h31_0, c104, rfl, rfl, rfl⟩))))))
        · refine lv_if_ne (tgt := 39) hx hb dX4_enter_34 (by decide) (fun c => absurd c (by decide)) (fun _ => ?_)
          refine lv_iconst (v := (-1)) hx hb dX4_enter_37 (by decide) ?_
          exact gM_iret C hr hP hS (by decide) (by decide) dX4_enter_38 (Or.inr (Or.inr (Or.inr (Or.inr (Or.inr (⟨c4, n13, c21, h31_0, rfl, rfl, rfl⟩))))))
def pq_X4_freeRequest (I : MI) (L : ML) : Int32 → MI → ML → Prop := fun r I' L' => (gfw (I 150) < 6 ∧ nI (gfw (I 150)) = r ∧ I = I' ∧ L = L') ∨ (¬ gfw (I 150) < 6 ∧ -1 = r ∧ I = I' ∧ L = L')
set_option maxRecDepth 100000 in
set_option maxHeartbeats 4000000 in
theorem ct_X4_freeRequest (l : Launch) (D : va_G) (cy : Nat → ClassId) (ad : Nat → Nat) (hJ : gJ ad) (I : MI) (L : ML) : gMi l D cy ad yX4_freeRequest cX4_freeRequest 3 .int (gR 5 0 0) [.ref (ad 136)] I L (pq_X4_freeRequest I L) := by
  refine gMi_of hJ (by decide +kernel) kc_X4_freeRequest (Nat.le_of_ble_eq_true rfl) (fun p e s m below meth c A ls C hr hP hS hl => ?_)
  have hx := C.hx
  have hb := C.hb
  have hl : lv_has ls 3 [(0, .ref (ad 136))] := hl
  refine lv_iconst (v := (-1)) hx hb dX4_freeRequest_0 (by decide) ?_
  refine lv_istore_n (lv' := [(1, .int (-1)), (0, .ref (ad 136))]) hx hb dX4_freeRequest_1 rfl hl (by decide) rfl (fun ls hl => ?_)
  refine lv_iconst (v := 5) hx hb dX4_freeRequest_2 (by decide) ?_
  refine lv_istore_n (lv' := [(2, .int 5), (1, .int (-1)), (0, .ref (ad 136))]) hx hb dX4_freeRequest_3 rfl hl (by decide) rfl (fun ls hl => ?_)
  have loop4 : ∀ (N : Nat) (i : Nat) (z : Int32) (hi : i ≤ 6) (hz : gzI (I 150) i z) (hfu : i < N) (H : Heap) (locs : List Loc) (ls : Array Slot), gP D cy ad I L H → va_S A s.heap H locs → lv_has ls 3 [(0, .ref (ad 136)), (1, .int z), (2, .int (gdn i))] → W p l e (gR 5 0 0) s m ([.ref (ad 136)] : List Value).toArray below meth c H locs 0 0 (MQ below (gQi D cy ad A (pq_X4_freeRequest I L)) ([.ref (ad 136)] : List Value).toArray s 0 0 A) (F0 m 4 ls []) := by
    intro N
    induction N with
    | zero =>
      intro i z hi hz hfu
      exact absurd hfu (by omega)
    | succ N ih4 =>
      intro i z hi hz hfu H locs ls hP hS hl
      refine lv_iload_n hx hb dX4_freeRequest_4 rfl (lv_at hl 2 rfl) ?_
      refine lv_if_lt (tgt := 29) hx hb dX4_freeRequest_5 (by decide) (fun c5 => ?_) (fun c5 => ?_)
      · refine lv_iload_n hx hb dX4_freeRequest_29 rfl (lv_at hl 1 rfl) ?_
        exact gM_iret C hr hP hS (by decide) (by decide) dX4_freeRequest_30 ((gzI_end (show gzI (I 150) 0 z by have e0 := gdn_neg (by omega) c5; rw [e0] at hz; exact hz)).elim (fun h => Or.inl ⟨h.1, h.2, rfl, rfl⟩) (fun h => Or.inr ⟨h.1, h.2, rfl, rfl⟩))  -- end 0: c5 : (gdn i) < 0
      · obtain ⟨g8, g8b⟩ := gdn_nn c5
        refine lv_aload_n hx hb dX4_freeRequest_8 rfl (lv_at hl 0 rfl) ?_
        refine g_get (v := .ref (ad 150)) (T := TX4) C hP 136 16 (by decide) rfl rfl inwX4 (by decide) kf_X4_51 rfl dX4_freeRequest_9 ?_
        refine lv_iload_n hx hb dX4_freeRequest_12 rfl (lv_at hl 2 rfl) ?_
        refine g_iald (v := I 150 (i - 1)) C hP 150 6 (by decide) (fun _ _ => rfl) (i - 1) g8 rfl (by omega) (by decide) dX4_freeRequest_13 ?_
        refine lv_if_ge (tgt := 21) hx hb dX4_freeRequest_14 (by decide) (fun c14 => ?_) (fun c14 => ?_)
        · refine lv_iload_n hx hb dX4_freeRequest_21 rfl (lv_at hl 1 rfl) ?_
          refine lv_istore_n (lv' := [(1, .int z), (0, .ref (ad 136)), (2, .int (gdn i))]) hx hb dX4_freeRequest_22 rfl hl (by decide) rfl (fun ls hl => ?_)
          refine lv_iinc (v := gdn (i - 1)) (lv' := [(2, .int (gdn (i - 1))), (1, .int z), (0, .ref (ad 136))]) hx hb dX4_freeRequest_23 hl (k := 2) rfl (gdn_dec g8b) (by decide) rfl (fun ls hl => ?_)
          refine lv_goto (tgt := 4) hx hb dX4_freeRequest_26 (by decide) ?_
          exact ih4 (i - 1) _ (by omega) (gzI_n g8b (Int32.not_lt.mpr c14) hz) (by omega) _ _ _ hP hS (lv_sub hl [2, 1, 0] rfl)
        · refine lv_iload_n hx hb dX4_freeRequest_17 rfl (lv_at hl 2 rfl) ?_
          refine lv_goto (tgt := 22) hx hb dX4_freeRequest_18 (by decide) ?_
          refine lv_istore_n (lv' := [(1, .int (gdn i)), (0, .ref (ad 136)), (2, .int (gdn i))]) hx hb dX4_freeRequest_22 rfl hl (by decide) rfl (fun ls hl => ?_)
          refine lv_iinc (v := gdn (i - 1)) (lv' := [(2, .int (gdn (i - 1))), (1, .int (gdn i)), (0, .ref (ad 136))]) hx hb dX4_freeRequest_23 hl (k := 2) rfl (gdn_dec g8b) (by decide) rfl (fun ls hl => ?_)
          refine lv_goto (tgt := 4) hx hb dX4_freeRequest_26 (by decide) ?_
          exact ih4 (i - 1) _ (by omega) (gzI_y hi g8b (Int32.not_le.mp c14)) (by omega) _ _ _ hP hS (lv_sub hl [2, 1, 0] rfl)
  rw [show (5 : Int32) = gdn 6 by decide] at hl
  exact loop4 7 6 _ (Nat.le_refl _) gzI_0 (by omega) _ _ _ hP hS (lv_sub hl [2, 1, 0] rfl)
def pq_X4_request (lc : Nat → Nat) (ne : Nat) (x1 : Int32) (x2 : Int32) (x3 : Int64) (I : MI) (L : ML) : Int32 → MI → ML → Prop := fun r I' L' => (gfw (I 150) < 6 ∧ ¬ (gfw (I 150)) < 0 ∧ (gz (L 137) (glf I lc (L 145) ne) 8) = 0 ∧ ((-1) : Int32) = r ∧ I = I' ∧ (gSS I lc L ne 8) = L') ∨ (gfw (I 150) < 6 ∧ ¬ (gfw (I 150)) < 0 ∧ ¬ (gz (L 137) (glf I lc (L 145) ne) 8) = 0 ∧ ¬ ne = 40 ∧ 100 + (nI (gfw (I 150))) = r ∧ (sI (sI I 150 (gfw (I 150)) x1) 151 (gfw (I 150)) x2) = I' ∧ (sL (gSS I lc L ne 8) 152 (gfw (I 150)) x3) = L') ∨ (gfw (I 150) < 6 ∧ ¬ (gfw (I 150)) < 0 ∧ ¬ (gz (L 137) (glf I lc (L 145) ne) 8) = 0 ∧ ne = 40 ∧ ((-1) : Int32) = r ∧ I = I' ∧ (gSS I lc L ne 8) = L') ∨ (¬ gfw (I 150) < 6 ∧ ((-1) : Int32) = r ∧ I = I' ∧ L = L')
set_option maxRecDepth 100000 in
set_option maxHeartbeats 4000000 in
theorem ct_X4_request (l : Launch) (D : va_G) (cy : Nat → ClassId) (ad : Nat → Nat) (hJ : gJ ad) (lc : Nat → Nat) (ne : Nat) (x1 : Int32) (x2 : Int32) (x3 : Int64) (I : MI) (L : ML) (hme : I 136 9 = nI ne) (hme40 : ne ≤ 40) (hml : ∀ p, p < 10 → I 139 p = nI (lc p)) (hml4 : ∀ p, p < 10 → lc p ≤ 4) (hma : ∀ p, p < 10 → ∀ k, k < lc p → vp_in (I 141 (4 * p + k)) 8) (hmr : ∀ e, e < ne → vp_in (I 144 e) 10) : gMi l D cy ad yX4_request cX4_request 6 .int (gR 2 0 0) [.ref (ad 136), .int x1, .int x2, .long x3] I L (pq_X4_request lc ne x1 x2 x3 I L) := by
  refine gMi_of hJ (by decide +kernel) kc_X4_request (Nat.le_of_ble_eq_true rfl) (fun p e s m below meth c A ls C hr hP hS hl => ?_)
  have hx := C.hx
  have hb := C.hb
  have hl : lv_has ls 6 [(0, .ref (ad 136)), (1, .int x1), (2, .int x2), (3, .long x3)] := hl
  refine lv_aload_n hx hb dX4_request_0 rfl (lv_at hl 0 rfl) ?_
  refine gM_callVi (As := []) (rest := []) C hP hS hl.1 (ct_X4_freeRequest l D cy ad hJ I L) fa_X4_freeRequest kl_X4_121 ki_X4_freeRequest kse_X4_freeRequest (by decide) (T := TX4) rfl rfl rfl (by decide) (Nat.le_of_ble_eq_true rfl) (by decide) dX4_request_1 rfl (fun r1 I1 L1 H locs hq hP hS => ?_)
  rcases hq with ⟨h1_0, rfl, rfl, rfl⟩ | ⟨h1_0, rfl, rfl, rfl⟩
  · refine lv_istore (lv' := [(5, .int (nI (gfw (I 150)))), (0, .ref (ad 136)), (1, .int x1), (2, .int x2), (3, .long x3)]) hx hb dX4_request_4 hl (by decide) rfl (fun ls hl => ?_)
    refine lv_iload hx hb dX4_request_6 (lv_at hl 0 rfl) ?_
    refine lv_if_lt (tgt := 27) hx hb dX4_request_8 (by decide) (fun c8 => absurd ((nI_lttE rfl (show (0 : Int32) = nI 0 from rfl) (by omega) (by omega)).mp c8) (Nat.not_lt_zero _)) (fun c8 => ?_)
    have n8 : ¬ (gfw (I 150)) < 0 := (not_congr (nI_lttE rfl (show (0 : Int32) = nI 0 from rfl) (by omega) (by omega))).mp c8
    refine lv_aload_n hx hb dX4_request_11 rfl (lv_at hl 1 rfl) ?_
    refine gM_callVi (As := []) (rest := []) C hP hS hl.1 (ct_X4_isSound l D cy ad hJ lc ne I L hme hme40 hml hml4 hma hmr) fa_X4_isSound kl_X4_111 ki_X4_isSound kse_X4_isSound (by decide) (T := TX4) rfl rfl rfl (by decide) (Nat.le_of_ble_eq_true rfl) (by decide) dX4_request_12 rfl (fun r12 I12 L12 H locs hq hP hS => ?_)
    obtain ⟨rfl, rfl, rfl⟩ := hq
    refine lv_if_eq (tgt := 27) hx hb dX4_request_15 (by decide) (fun c15 => ?_) (fun c15 => ?_)
    · refine lv_iconst (v := (-1)) hx hb dX4_request_27 (by decide) ?_
      exact gM_iret C hr hP hS (by decide) (by decide) dX4_request_28 (Or.inl (⟨h1_0, n8, c15, rfl, rfl, rfl⟩))
    · refine lv_aload_n hx hb dX4_request_18 rfl (lv_at hl 1 rfl) ?_
      refine g_get (v := .int (nI ne)) (T := TX4) C hP 136 9 (by decide) rfl rfl inwX4 (by decide) kf_X4_104 (congrArg (fun z => some (Value.int z)) hme) dX4_request_19 ?_
      refine lv_bipush (v := 40) hx hb dX4_request_22 (by decide) ?_
      refine lv_icmp_ne (tgt := 29) hx hb dX4_request_24 (by decide) (fun c24 => ?_) (fun c24 => ?_)
      · have n24 : ¬ ne = 40 := (not_congr (nI_eqqE rfl (show (40 : Int32) = nI 40 from rfl) (by omega) (by omega))).mp c24
        refine lv_aload_n hx hb dX4_request_29 rfl (lv_at hl 1 rfl) ?_
        refine g_get (v := .ref (ad 150)) (T := TX4) C hP 136 16 (by decide) rfl rfl inwX4 (by decide) kf_X4_51 rfl dX4_request_30 ?_
        refine lv_iload hx hb dX4_request_33 (lv_at hl 0 rfl) ?_
        refine lv_iload_n hx hb dX4_request_35 rfl (lv_at hl 2 rfl) ?_
        refine g_iast C hP hS 150 6 (by decide) (fun _ _ => rfl) (gfw (I 150)) rfl (by omega) (by decide) dX4_request_36 (fun H locs hP hS => ?_)
        refine lv_aload_n hx hb dX4_request_37 rfl (lv_at hl 1 rfl) ?_
        refine g_get (v := .ref (ad 151)) (T := TX4) C hP 136 17 (by decide) rfl rfl inwX4 (by decide) kf_X4_54 rfl dX4_request_38 ?_
        refine lv_iload hx hb dX4_request_41 (lv_at hl 0 rfl) ?_
        refine lv_iload_n hx hb dX4_request_43 rfl (lv_at hl 3 rfl) ?_
        refine g_iast C hP hS 151 6 (by decide) (fun _ _ => rfl) (gfw (I 150)) rfl (by omega) (by decide) dX4_request_44 (fun H locs hP hS => ?_)
        refine lv_aload_n hx hb dX4_request_45 rfl (lv_at hl 1 rfl) ?_
        refine g_get (v := .ref (ad 152)) (T := TX4) C hP 136 18 (by decide) rfl rfl inwX4 (by decide) kf_X4_57 rfl dX4_request_46 ?_
        refine lv_iload hx hb dX4_request_49 (lv_at hl 0 rfl) ?_
        refine lv_lload_n hx hb dX4_request_51 rfl (lv_at hl 4 rfl) ?_
        refine g_last C hP hS 152 6 (by decide) (fun _ _ => rfl) (gfw (I 150)) rfl (by omega) (by decide) dX4_request_52 (fun H locs hP hS => ?_)
        refine lv_bipush (v := 100) hx hb dX4_request_53 (by decide) ?_
        refine lv_iload hx hb dX4_request_55 (lv_at hl 0 rfl) ?_
        refine lv_iadd hx hb dX4_request_57 ?_
        exact gM_iret C hr hP hS (by decide) (by decide) dX4_request_58 (Or.inr (Or.inl (⟨h1_0, n8, c15, n24, rfl, rfl, rfl⟩)))
      · have n24 : ne = 40 := (nI_eqqE rfl (show (40 : Int32) = nI 40 from rfl) (by omega) (by omega)).mp c24
        refine lv_iconst (v := (-1)) hx hb dX4_request_27 (by decide) ?_
        exact gM_iret C hr hP hS (by decide) (by decide) dX4_request_28 (Or.inr (Or.inr (Or.inl (⟨h1_0, n8, c15, n24, rfl, rfl, rfl⟩))))
  · refine lv_istore (lv' := [(5, .int (-1)), (0, .ref (ad 136)), (1, .int x1), (2, .int x2), (3, .long x3)]) hx hb dX4_request_4 hl (by decide) rfl (fun ls hl => ?_)
    refine lv_iload hx hb dX4_request_6 (lv_at hl 0 rfl) ?_
    refine lv_if_lt (tgt := 27) hx hb dX4_request_8 (by decide) (fun _ => ?_) (fun c => absurd c (by decide))
    refine lv_iconst (v := (-1)) hx hb dX4_request_27 (by decide) ?_
    exact gM_iret C hr hP hS (by decide) (by decide) dX4_request_28 (Or.inr (Or.inr (Or.inr (⟨h1_0, rfl, rfl, rfl⟩))))
