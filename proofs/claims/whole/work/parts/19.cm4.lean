def pq_X4_draw (np : Nat) (lc : Nat → Nat) (x1 : Int32) (x2 : Int32) (I : MI) (L : ML) : Int32 → MI → ML → Prop := fun r I' L' => (vp_in x1 8 ∧ gSh x2 ∧ ¬ np = 10 ∧ nI np = r ∧ (sI (sI (sI (sI (sI (sI I 136 0 0) 136 3 ((nI np) + 1)) 139 np 1) 140 np (-1)) 141 (4 * np) x1) 142 (4 * np) x2) = I' ∧ L = L') ∨ (vp_in x1 8 ∧ gSh x2 ∧ np = 10 ∧ (0 : Int32) = r ∧ (sI I 136 0 3) = I' ∧ L = L') ∨ (vp_in x1 8 ∧ ¬ gSh x2 ∧ (0 : Int32) = r ∧ (sI I 136 0 2) = I' ∧ L = L') ∨ (¬ vp_in x1 8 ∧ (0 : Int32) = r ∧ (sI I 136 0 1) = I' ∧ L = L')
set_option maxRecDepth 100000 in
set_option maxHeartbeats 4000000 in
theorem ct_X4_draw (l : Launch) (D : va_G) (cy : Nat → ClassId) (ad : Nat → Nat) (hJ : gJ ad) (np : Nat) (lc : Nat → Nat) (x1 : Int32) (x2 : Int32) (I : MI) (L : ML) (hmp : I 136 3 = nI np) (hmp10 : np ≤ 10) (hml : ∀ p, p < 10 → I 139 p = nI (lc p)) (hml4 : ∀ p, p < 10 → lc p ≤ 4) : gMi l D cy ad yX4_draw cX4_draw 4 .int (gR 1 0 0) [.ref (ad 136), .int x1, .int x2] I L (pq_X4_draw np lc x1 x2 I L) := by
  refine gMi_of hJ (by decide +kernel) kc_X4_draw (Nat.le_of_ble_eq_true rfl) (fun p e s m below meth c A ls C hr hP hS hl => ?_)
  have hx := C.hx
  have hb := C.hb
  have hl : lv_has ls 4 [(0, .ref (ad 136)), (1, .int x1), (2, .int x2)] := hl
  refine lv_aload_n hx hb dX4_draw_0 rfl (lv_at hl 0 rfl) ?_
  refine lv_iload_n hx hb dX4_draw_1 rfl (lv_at hl 1 rfl) ?_
  refine gM_callSi (As := [.int x1]) (rest := [.ref (ad 136)]) C hP hS hl.1 (ct_X4_isOne l D cy ad hJ x1 I L) fa_X4_isOne kl_X4_72 kst_X4_isOne rfl (by decide) (Nat.le_of_ble_eq_true rfl) (by decide) dX4_draw_2 rfl (fun r2 I2 L2 H locs hq hP hS => ?_)
  rcases hq with ⟨h2_0, rfl, rfl, rfl⟩ | ⟨h2_0, rfl, rfl, rfl⟩
  · obtain ⟨e2_0, l2_0⟩ := vp_ix h2_0
    refine lv_if_ne (tgt := 12) hx hb dX4_draw_5 (by decide) (fun _ => ?_) (fun c => absurd c (by decide))
    refine lv_iload_n hx hb dX4_draw_12 rfl (lv_at hl 2 rfl) ?_
    refine gM_callSi (As := [.int x2]) (rest := [.ref (ad 136)]) C hP hS hl.1 (ct_X4_isShare l D cy ad hJ x2 I L) fa_X4_isShare kl_X4_76 kst_X4_isShare rfl (by decide) (Nat.le_of_ble_eq_true rfl) (by decide) dX4_draw_13 rfl (fun r13 I13 L13 H locs hq hP hS => ?_)
    rcases hq with ⟨h13_0, rfl, rfl, rfl⟩ | ⟨h13_0, rfl, rfl, rfl⟩
    · refine lv_if_ne (tgt := 23) hx hb dX4_draw_16 (by decide) (fun _ => ?_) (fun c => absurd c (by decide))
      refine lv_aload_n hx hb dX4_draw_23 rfl (lv_at hl 0 rfl) ?_
      refine g_get (v := .int (nI np)) (T := TX4) C hP 136 3 (by decide) rfl rfl inwX4 (by decide) kf_X4_69 (congrArg (fun z => some (Value.int z)) hmp) dX4_draw_24 ?_
      refine lv_bipush (v := 10) hx hb dX4_draw_27 (by decide) ?_
      refine lv_icmp_ne (tgt := 36) hx hb dX4_draw_29 (by decide) (fun c29 => ?_) (fun c29 => ?_)
      · have n29 : ¬ np = 10 := (not_congr (nI_eqqE rfl (show (10 : Int32) = nI 10 from rfl) (by omega) (by omega))).mp c29
        refine lv_iconst (v := 0) hx hb dX4_draw_36 (by decide) ?_
        refine g_putI (T := TX4) C hP hS 136 0 (by decide) rfl rfl inwX4 tyX4 tyX4_ok nmX4 (by decide) kf_X4_65 rfl rfl (by decide : 0 < 20) (by simp only [sI, va_up_self]; rfl) dX4_draw_37 (fun H locs hP hS => ?_)
        refine lv_aload_n hx hb dX4_draw_40 rfl (lv_at hl 0 rfl) ?_
        refine g_get (v := .int 0) (T := TX4) C hP 136 0 (by decide) rfl rfl inwX4 (by decide) kf_X4_65 (congrArg (fun z => some (Value.int z)) sI_eq) dX4_draw_41 ?_
        refine lv_if_le (tgt := 49) hx hb dX4_draw_44 (by decide) (fun _ => ?_) (fun c => absurd c (by decide))
        refine lv_aload_n hx hb dX4_draw_49 rfl (lv_at hl 0 rfl) ?_
        refine g_get (v := .int (nI np)) (T := TX4) C hP 136 3 (by decide) rfl rfl inwX4 (by decide) kf_X4_69 (congrArg (fun z => some (Value.int z)) ((sI_ne (by decide)).trans hmp)) dX4_draw_50 ?_
        refine lv_istore_n (lv' := [(3, .int (nI np)), (0, .ref (ad 136)), (1, .int x1), (2, .int x2)]) hx hb dX4_draw_53 rfl hl (by decide) rfl (fun ls hl => ?_)
        refine lv_aload_n hx hb dX4_draw_54 rfl (lv_at hl 1 rfl) ?_
        refine lv_dup hx hb dX4_draw_55 rfl ?_
        refine g_get (v := .int (nI np)) (T := TX4) C hP 136 3 (by decide) rfl rfl inwX4 (by decide) kf_X4_69 (congrArg (fun z => some (Value.int z)) ((sI_ne (by decide)).trans hmp)) dX4_draw_56 ?_
        refine lv_iconst (v := 1) hx hb dX4_draw_59 (by decide) ?_
        refine lv_iadd hx hb dX4_draw_60 ?_
        refine g_putI (T := TX4) C hP hS 136 3 (by decide) rfl rfl inwX4 tyX4 tyX4_ok nmX4 (by decide) kf_X4_69 rfl rfl (by decide : 3 < 20) (by simp only [sI, va_up_self]; rfl) dX4_draw_61 (fun H locs hP hS => ?_)
        refine lv_aload_n hx hb dX4_draw_64 rfl (lv_at hl 1 rfl) ?_
        refine g_get (v := .ref (ad 139)) (T := TX4) C hP 136 4 (by decide) rfl rfl inwX4 (by decide) kf_X4_16 rfl dX4_draw_65 ?_
        refine lv_iload_n hx hb dX4_draw_68 rfl (lv_at hl 0 rfl) ?_
        refine lv_iconst (v := 1) hx hb dX4_draw_69 (by decide) ?_
        refine g_iast C hP hS 139 10 (by decide) (fun _ _ => rfl) np rfl (by omega) (by decide) dX4_draw_70 (fun H locs hP hS => ?_)
        refine lv_aload_n hx hb dX4_draw_71 rfl (lv_at hl 1 rfl) ?_
        refine g_get (v := .ref (ad 140)) (T := TX4) C hP 136 5 (by decide) rfl rfl inwX4 (by decide) kf_X4_20 rfl dX4_draw_72 ?_
        refine lv_iload_n hx hb dX4_draw_75 rfl (lv_at hl 0 rfl) ?_
        refine lv_iconst (v := (-1)) hx hb dX4_draw_76 (by decide) ?_
        refine g_iast C hP hS 140 10 (by decide) (fun _ _ => rfl) np rfl (by omega) (by decide) dX4_draw_77 (fun H locs hP hS => ?_)
        refine lv_aload_n hx hb dX4_draw_78 rfl (lv_at hl 1 rfl) ?_
        refine g_get (v := .ref (ad 141)) (T := TX4) C hP 136 6 (by decide) rfl rfl inwX4 (by decide) kf_X4_23 rfl dX4_draw_79 ?_
        refine lv_iconst (v := 4) hx hb dX4_draw_82 (by decide) ?_
        refine lv_iload_n hx hb dX4_draw_83 rfl (lv_at hl 0 rfl) ?_
        refine lv_imul hx hb dX4_draw_84 ?_
        refine lv_iload_n hx hb dX4_draw_85 rfl (lv_at hl 2 rfl) ?_
        refine g_iast C hP hS 141 40 (by decide) (fun _ _ => rfl) (4 * np) (nI_mulE (show (4 : Int32) = nI 4 from rfl) rfl) (by omega) (by decide) dX4_draw_86 (fun H locs hP hS => ?_)
        refine lv_aload_n hx hb dX4_draw_87 rfl (lv_at hl 1 rfl) ?_
        refine g_get (v := .ref (ad 142)) (T := TX4) C hP 136 7 (by decide) rfl rfl inwX4 (by decide) kf_X4_26 rfl dX4_draw_88 ?_
        refine lv_iconst (v := 4) hx hb dX4_draw_91 (by decide) ?_
        refine lv_iload_n hx hb dX4_draw_92 rfl (lv_at hl 0 rfl) ?_
        refine lv_imul hx hb dX4_draw_93 ?_
        refine lv_iload_n hx hb dX4_draw_94 rfl (lv_at hl 3 rfl) ?_
        refine g_iast C hP hS 142 40 (by decide) (fun _ _ => rfl) (4 * np) (nI_mulE (show (4 : Int32) = nI 4 from rfl) rfl) (by omega) (by decide) dX4_draw_95 (fun H locs hP hS => ?_)
        refine lv_iload_n hx hb dX4_draw_96 rfl (lv_at hl 0 rfl) ?_
        exact gM_iret C hr hP hS (by decide) (by decide) dX4_draw_97 (Or.inl (⟨h2_0, h13_0, n29, rfl, rfl, rfl⟩))
      · have n29 : np = 10 := (nI_eqqE rfl (show (10 : Int32) = nI 10 from rfl) (by omega) (by omega)).mp c29
        refine lv_iconst (v := 3) hx hb dX4_draw_32 (by decide) ?_
        refine lv_goto (tgt := 37) hx hb dX4_draw_33 (by decide) ?_
        refine g_putI (T := TX4) C hP hS 136 0 (by decide) rfl rfl inwX4 tyX4 tyX4_ok nmX4 (by decide) kf_X4_65 rfl rfl (by decide : 0 < 20) (by simp only [sI, va_up_self]; rfl) dX4_draw_37 (fun H locs hP hS => ?_)
        refine lv_aload_n hx hb dX4_draw_40 rfl (lv_at hl 0 rfl) ?_
        refine g_get (v := .int 3) (T := TX4) C hP 136 0 (by decide) rfl rfl inwX4 (by decide) kf_X4_65 (congrArg (fun z => some (Value.int z)) sI_eq) dX4_draw_41 ?_
        refine lv_if_le (tgt := 49) hx hb dX4_draw_44 (by decide) (fun c => absurd c (by decide)) (fun _ => ?_)
        refine lv_iconst (v := 0) hx hb dX4_draw_47 (by decide) ?_
        exact gM_iret C hr hP hS (by decide) (by decide) dX4_draw_48 (Or.inr (Or.inl (⟨h2_0, h13_0, n29, rfl, rfl, rfl⟩)))
    · refine lv_if_ne (tgt := 23) hx hb dX4_draw_16 (by decide) (fun c => absurd c (by decide)) (fun _ => ?_)
      refine lv_iconst (v := 2) hx hb dX4_draw_19 (by decide) ?_
      refine lv_goto (tgt := 37) hx hb dX4_draw_20 (by decide) ?_
      refine g_putI (T := TX4) C hP hS 136 0 (by decide) rfl rfl inwX4 tyX4 tyX4_ok nmX4 (by decide) kf_X4_65 rfl rfl (by decide : 0 < 20) (by simp only [sI, va_up_self]; rfl) dX4_draw_37 (fun H locs hP hS => ?_)
      refine lv_aload_n hx hb dX4_draw_40 rfl (lv_at hl 0 rfl) ?_
      refine g_get (v := .int 2) (T := TX4) C hP 136 0 (by decide) rfl rfl inwX4 (by decide) kf_X4_65 (congrArg (fun z => some (Value.int z)) sI_eq) dX4_draw_41 ?_
      refine lv_if_le (tgt := 49) hx hb dX4_draw_44 (by decide) (fun c => absurd c (by decide)) (fun _ => ?_)
      refine lv_iconst (v := 0) hx hb dX4_draw_47 (by decide) ?_
      exact gM_iret C hr hP hS (by decide) (by decide) dX4_draw_48 (Or.inr (Or.inr (Or.inl (⟨h2_0, h13_0, rfl, rfl, rfl⟩))))
  · refine lv_if_ne (tgt := 12) hx hb dX4_draw_5 (by decide) (fun c => absurd c (by decide)) (fun _ => ?_)
    refine lv_iconst (v := 1) hx hb dX4_draw_8 (by decide) ?_
    refine lv_goto (tgt := 37) hx hb dX4_draw_9 (by decide) ?_
    refine g_putI (T := TX4) C hP hS 136 0 (by decide) rfl rfl inwX4 tyX4 tyX4_ok nmX4 (by decide) kf_X4_65 rfl rfl (by decide : 0 < 20) (by simp only [sI, va_up_self]; rfl) dX4_draw_37 (fun H locs hP hS => ?_)
    refine lv_aload_n hx hb dX4_draw_40 rfl (lv_at hl 0 rfl) ?_
    refine g_get (v := .int 1) (T := TX4) C hP 136 0 (by decide) rfl rfl inwX4 (by decide) kf_X4_65 (congrArg (fun z => some (Value.int z)) sI_eq) dX4_draw_41 ?_
    refine lv_if_le (tgt := 49) hx hb dX4_draw_44 (by decide) (fun c => absurd c (by decide)) (fun _ => ?_)
    refine lv_iconst (v := 0) hx hb dX4_draw_47 (by decide) ?_
    exact gM_iret C hr hP hS (by decide) (by decide) dX4_draw_48 (Or.inr (Or.inr (Or.inr (⟨h2_0, rfl, rfl, rfl⟩))))
def pq_X4_add (np : Nat) (lc : Nat → Nat) (x1 : Int32) (x2 : Int32) (x3 : Int32) (I : MI) (L : ML) : Int32 → MI → ML → Prop := fun r I' L' => (vp_in x1 np ∧ vp_in x2 8 ∧ gSh x3 ∧ (∃ k, k < lc x1.toNatClampNeg ∧ (sI I 136 0 0) 141 (4 * x1.toNatClampNeg + k) = x2) ∧ (0 : Int32) = r ∧ (sI (sI I 136 0 0) 136 0 2) = I' ∧ L = L') ∨ (vp_in x1 np ∧ vp_in x2 8 ∧ gSh x3 ∧ (¬ (∃ k, k < lc x1.toNatClampNeg ∧ (sI I 136 0 0) 141 (4 * x1.toNatClampNeg + k) = x2)) ∧ 0 ≤ (I 140 x1.toNatClampNeg) ∧ (0 : Int32) = r ∧ (sI (sI I 136 0 0) 136 0 3) = I' ∧ L = L') ∨ (vp_in x1 np ∧ vp_in x2 8 ∧ gSh x3 ∧ (¬ (∃ k, k < lc x1.toNatClampNeg ∧ (sI I 136 0 0) 141 (4 * x1.toNatClampNeg + k) = x2)) ∧ ¬ 0 ≤ (I 140 x1.toNatClampNeg) ∧ ¬ (lc x1.toNatClampNeg) = 4 ∧ (nI (lc x1.toNatClampNeg)) + 1 = r ∧ (sI (sI (sI (sI (sI I 136 0 0) 136 0 0) 141 ((4 * x1.toNatClampNeg) + (lc x1.toNatClampNeg)) x2) 142 ((4 * x1.toNatClampNeg) + (lc x1.toNatClampNeg)) x3) 139 x1.toNatClampNeg ((nI (lc x1.toNatClampNeg)) + 1)) = I' ∧ L = L') ∨ (vp_in x1 np ∧ vp_in x2 8 ∧ gSh x3 ∧ (¬ (∃ k, k < lc x1.toNatClampNeg ∧ (sI I 136 0 0) 141 (4 * x1.toNatClampNeg + k) = x2)) ∧ ¬ 0 ≤ (I 140 x1.toNatClampNeg) ∧ (lc x1.toNatClampNeg) = 4 ∧ (0 : Int32) = r ∧ (sI (sI I 136 0 0) 136 0 3) = I' ∧ L = L') ∨ (vp_in x1 np ∧ vp_in x2 8 ∧ ¬ gSh x3 ∧ (0 : Int32) = r ∧ (sI (sI I 136 0 0) 136 0 2) = I' ∧ L = L') ∨ (vp_in x1 np ∧ ¬ vp_in x2 8 ∧ (0 : Int32) = r ∧ (sI I 136 0 1) = I' ∧ L = L') ∨ (¬ vp_in x1 np ∧ (0 : Int32) = r ∧ (sI I 136 0 1) = I' ∧ L = L')
set_option maxRecDepth 100000 in
set_option maxHeartbeats 4000000 in
theorem ct_X4_add (l : Launch) (D : va_G) (cy : Nat → ClassId) (ad : Nat → Nat) (hJ : gJ ad) (np : Nat) (lc : Nat → Nat) (x1 : Int32) (x2 : Int32) (x3 : Int32) (I : MI) (L : ML) (hmp : I 136 3 = nI np) (hmp10 : np ≤ 10) (hml : ∀ p, p < 10 → I 139 p = nI (lc p)) (hml4 : ∀ p, p < 10 → lc p ≤ 4) : gMi l D cy ad yX4_add cX4_add 4 .int (gR 1 0 0) [.ref (ad 136), .int x1, .int x2, .int x3] I L (pq_X4_add np lc x1 x2 x3 I L) := by
  refine gMi_of hJ (by decide +kernel) kc_X4_add (Nat.le_of_ble_eq_true rfl) (fun p e s m below meth c A ls C hr hP hS hl => ?_)
  have hx := C.hx
  have hb := C.hb
  have hl : lv_has ls 4 [(0, .ref (ad 136)), (1, .int x1), (2, .int x2), (3, .int x3)] := hl
  refine lv_aload_n hx hb dX4_add_0 rfl (lv_at hl 0 rfl) ?_
  refine lv_aload_n hx hb dX4_add_1 rfl (lv_at hl 0 rfl) ?_
  refine lv_iload_n hx hb dX4_add_2 rfl (lv_at hl 1 rfl) ?_
  refine gM_callVi (As := [.int x1]) (rest := [.ref (ad 136)]) C hP hS hl.1 (ct_X4_isProcedure l D cy ad hJ np x1 I L hmp hmp10) fa_X4_isProcedure kl_X4_79 ki_X4_isProcedure kse_X4_isProcedure (by decide) (T := TX4) rfl rfl rfl (by decide) (Nat.le_of_ble_eq_true rfl) (by decide) dX4_add_3 rfl (fun r3 I3 L3 H locs hq hP hS => ?_)
  rcases hq with ⟨h3_0, rfl, rfl, rfl⟩ | ⟨h3_0, rfl, rfl, rfl⟩
  · obtain ⟨e3_0, l3_0⟩ := vp_ix h3_0
    have q3_0 := hml4 x1.toNatClampNeg (by omega)
    refine lv_if_eq (tgt := 16) hx hb dX4_add_6 (by decide) (fun c => absurd c (by decide)) (fun _ => ?_)
    refine lv_iload_n hx hb dX4_add_9 rfl (lv_at hl 2 rfl) ?_
    refine gM_callSi (As := [.int x2]) (rest := [.ref (ad 136)]) C hP hS hl.1 (ct_X4_isOne l D cy ad hJ x2 I L) fa_X4_isOne kl_X4_72 kst_X4_isOne rfl (by decide) (Nat.le_of_ble_eq_true rfl) (by decide) dX4_add_10 rfl (fun r10 I10 L10 H locs hq hP hS => ?_)
    rcases hq with ⟨h10_0, rfl, rfl, rfl⟩ | ⟨h10_0, rfl, rfl, rfl⟩
    · obtain ⟨e10_0, l10_0⟩ := vp_ix h10_0
      refine lv_if_ne (tgt := 20) hx hb dX4_add_13 (by decide) (fun _ => ?_) (fun c => absurd c (by decide))
      refine lv_iconst (v := 0) hx hb dX4_add_20 (by decide) ?_
      refine g_putI (T := TX4) C hP hS 136 0 (by decide) rfl rfl inwX4 tyX4 tyX4_ok nmX4 (by decide) kf_X4_65 rfl rfl (by decide : 0 < 20) (by simp only [sI, va_up_self]; rfl) dX4_add_21 (fun H locs hP hS => ?_)
      refine lv_aload_n hx hb dX4_add_24 rfl (lv_at hl 0 rfl) ?_
      refine g_get (v := .int 0) (T := TX4) C hP 136 0 (by decide) rfl rfl inwX4 (by decide) kf_X4_65 (congrArg (fun z => some (Value.int z)) sI_eq) dX4_add_25 ?_
      refine lv_if_ne (tgt := 79) hx hb dX4_add_28 (by decide) (fun c => absurd c (by decide)) (fun _ => ?_)
      refine lv_aload_n hx hb dX4_add_31 rfl (lv_at hl 0 rfl) ?_
      refine lv_iload_n hx hb dX4_add_32 rfl (lv_at hl 3 rfl) ?_
      refine gM_callSi (As := [.int x3]) (rest := [.ref (ad 136)]) C hP hS hl.1 (ct_X4_isShare l D cy ad hJ x3 (sI I 136 0 0) L) fa_X4_isShare kl_X4_76 kst_X4_isShare rfl (by decide) (Nat.le_of_ble_eq_true rfl) (by decide) dX4_add_33 rfl (fun r33 I33 L33 H locs hq hP hS => ?_)
      rcases hq with ⟨h33_0, rfl, rfl, rfl⟩ | ⟨h33_0, rfl, rfl, rfl⟩
      · refine lv_if_eq (tgt := 48) hx hb dX4_add_36 (by decide) (fun c => absurd c (by decide)) (fun _ => ?_)
        refine lv_aload_n hx hb dX4_add_39 rfl (lv_at hl 0 rfl) ?_
        refine lv_iload_n hx hb dX4_add_40 rfl (lv_at hl 1 rfl) ?_
        refine lv_iload_n hx hb dX4_add_41 rfl (lv_at hl 2 rfl) ?_
        refine gM_callVi (As := [.int x1, .int x2]) (rest := [.ref (ad 136)]) C hP hS hl.1 (ct_X4_hasLine l D cy ad hJ x1.toNatClampNeg (lc x1.toNatClampNeg) x1 x2 (sI I 136 0 0) L e3_0 (by omega) (hml x1.toNatClampNeg (by omega)) (hml4 x1.toNatClampNeg (by omega))) fa_X4_hasLine kl_X4_82 ki_X4_hasLine kse_X4_hasLine (by decide) (T := TX4) rfl rfl rfl (by decide) (Nat.le_of_ble_eq_true rfl) (by decide) dX4_add_42 rfl (fun r42 I42 L42 H locs hq hP hS => ?_)
        rcases hq with ⟨h42_0, rfl, rfl, rfl⟩ | ⟨h42_0, rfl, rfl, rfl⟩
        · refine lv_if_eq (tgt := 52) hx hb dX4_add_45 (by decide) (fun c => absurd c (by decide)) (fun _ => ?_)
          refine lv_iconst (v := 2) hx hb dX4_add_48 (by decide) ?_
          refine lv_goto (tgt := 76) hx hb dX4_add_49 (by decide) ?_
          refine g_putI (T := TX4) C hP hS 136 0 (by decide) rfl rfl inwX4 tyX4 tyX4_ok nmX4 (by decide) kf_X4_65 rfl rfl (by decide : 0 < 20) (by simp only [sI, va_up_self]; rfl) dX4_add_76 (fun H locs hP hS => ?_)
          refine lv_aload_n hx hb dX4_add_79 rfl (lv_at hl 0 rfl) ?_
          refine g_get (v := .int 2) (T := TX4) C hP 136 0 (by decide) rfl rfl inwX4 (by decide) kf_X4_65 (congrArg (fun z => some (Value.int z)) sI_eq) dX4_add_80 ?_
          refine lv_if_le (tgt := 88) hx hb dX4_add_83 (by decide) (fun c => absurd c (by decide)) (fun _ => ?_)
          refine lv_iconst (v := 0) hx hb dX4_add_86 (by decide) ?_
          exact gM_iret C hr hP hS (by decide) (by decide) dX4_add_87 (Or.inl (⟨h3_0, h10_0, h33_0, h42_0, rfl, rfl, rfl⟩))
        · refine lv_if_eq (tgt := 52) hx hb dX4_add_45 (by decide) (fun _ => ?_) (fun c => absurd c (by decide))
          refine lv_aload_n hx hb dX4_add_52 rfl (lv_at hl 0 rfl) ?_
          refine g_get (v := .ref (ad 140)) (T := TX4) C hP 136 5 (by decide) rfl rfl inwX4 (by decide) kf_X4_20 rfl dX4_add_53 ?_
          refine lv_iload_n hx hb dX4_add_56 rfl (lv_at hl 1 rfl) ?_
          refine g_iald (v := I 140 x1.toNatClampNeg) C hP 140 10 (by decide) (fun _ _ => rfl) x1.toNatClampNeg e3_0 (congrFun (sI_row (by decide)) _) (by omega) (by decide) dX4_add_57 ?_
          refine lv_if_ge (tgt := 71) hx hb dX4_add_58 (by decide) (fun c58 => ?_) (fun c58 => ?_)
          · refine lv_iconst (v := 3) hx hb dX4_add_71 (by decide) ?_
            refine lv_goto (tgt := 76) hx hb dX4_add_72 (by decide) ?_
            refine g_putI (T := TX4) C hP hS 136 0 (by decide) rfl rfl inwX4 tyX4 tyX4_ok nmX4 (by decide) kf_X4_65 rfl rfl (by decide : 0 < 20) (by simp only [sI, va_up_self]; rfl) dX4_add_76 (fun H locs hP hS => ?_)
            refine lv_aload_n hx hb dX4_add_79 rfl (lv_at hl 0 rfl) ?_
            refine g_get (v := .int 3) (T := TX4) C hP 136 0 (by decide) rfl rfl inwX4 (by decide) kf_X4_65 (congrArg (fun z => some (Value.int z)) sI_eq) dX4_add_80 ?_
            refine lv_if_le (tgt := 88) hx hb dX4_add_83 (by decide) (fun c => absurd c (by decide)) (fun _ => ?_)
            refine lv_iconst (v := 0) hx hb dX4_add_86 (by decide) ?_
            exact gM_iret C hr hP hS (by decide) (by decide) dX4_add_87 (Or.inr (Or.inl (⟨h3_0, h10_0, h33_0, h42_0, c58, rfl, rfl, rfl⟩)))
          · refine lv_aload_n hx hb dX4_add_61 rfl (lv_at hl 0 rfl) ?_
            refine g_get (v := .ref (ad 139)) (T := TX4) C hP 136 4 (by decide) rfl rfl inwX4 (by decide) kf_X4_16 rfl dX4_add_62 ?_
            refine lv_iload_n hx hb dX4_add_65 rfl (lv_at hl 1 rfl) ?_
            refine g_iald (v := nI (lc x1.toNatClampNeg)) C hP 139 10 (by decide) (fun _ _ => rfl) x1.toNatClampNeg e3_0 ((congrFun (sI_row (by decide)) _).trans (hml x1.toNatClampNeg (by omega))) (by omega) (by decide) dX4_add_66 ?_
            refine lv_iconst (v := 4) hx hb dX4_add_67 (by decide) ?_
            refine lv_icmp_ne (tgt := 75) hx hb dX4_add_68 (by decide) (fun c68 => ?_) (fun c68 => ?_)
            · have n68 : ¬ (lc x1.toNatClampNeg) = 4 := (not_congr (nI_eqqE rfl (show (4 : Int32) = nI 4 from rfl) (by omega) (by omega))).mp c68
              refine lv_iconst (v := 0) hx hb dX4_add_75 (by decide) ?_
              refine g_putI (T := TX4) C hP hS 136 0 (by decide) rfl rfl inwX4 tyX4 tyX4_ok nmX4 (by decide) kf_X4_65 rfl rfl (by decide : 0 < 20) (by simp only [sI, va_up_self]; rfl) dX4_add_76 (fun H locs hP hS => ?_)
              refine lv_aload_n hx hb dX4_add_79 rfl (lv_at hl 0 rfl) ?_
              refine g_get (v := .int 0) (T := TX4) C hP 136 0 (by decide) rfl rfl inwX4 (by decide) kf_X4_65 (congrArg (fun z => some (Value.int z)) sI_eq) dX4_add_80 ?_
              refine lv_if_le (tgt := 88) hx hb dX4_add_83 (by decide) (fun _ => ?_) (fun c => absurd c (by decide))
              refine lv_aload_n hx hb dX4_add_88 rfl (lv_at hl 0 rfl) ?_
              refine g_get (v := .ref (ad 141)) (T := TX4) C hP 136 6 (by decide) rfl rfl inwX4 (by decide) kf_X4_23 rfl dX4_add_89 ?_
              refine lv_iconst (v := 4) hx hb dX4_add_92 (by decide) ?_
              refine lv_iload_n hx hb dX4_add_93 rfl (lv_at hl 1 rfl) ?_
              refine lv_imul hx hb dX4_add_94 ?_
              refine lv_aload_n hx hb dX4_add_95 rfl (lv_at hl 0 rfl) ?_
              refine g_get (v := .ref (ad 139)) (T := TX4) C hP 136 4 (by decide) rfl rfl inwX4 (by decide) kf_X4_16 rfl dX4_add_96 ?_
              refine lv_iload_n hx hb dX4_add_99 rfl (lv_at hl 1 rfl) ?_
              refine g_iald (v := nI (lc x1.toNatClampNeg)) C hP 139 10 (by decide) (fun _ _ => rfl) x1.toNatClampNeg e3_0 ((congrFun (sI_row (by decide)) _).trans ((congrFun (sI_row (by decide)) _).trans (hml x1.toNatClampNeg (by omega)))) (by omega) (by decide) dX4_add_100 ?_
              refine lv_iadd hx hb dX4_add_101 ?_
              refine lv_iload_n hx hb dX4_add_102 rfl (lv_at hl 2 rfl) ?_
              refine g_iast C hP hS 141 40 (by decide) (fun _ _ => rfl) ((4 * x1.toNatClampNeg) + (lc x1.toNatClampNeg)) (nI_addE (nI_mulE (show (4 : Int32) = nI 4 from rfl) e3_0) rfl) (by omega) (by decide) dX4_add_103 (fun H locs hP hS => ?_)
              refine lv_aload_n hx hb dX4_add_104 rfl (lv_at hl 0 rfl) ?_
              refine g_get (v := .ref (ad 142)) (T := TX4) C hP 136 7 (by decide) rfl rfl inwX4 (by decide) kf_X4_26 rfl dX4_add_105 ?_
              refine lv_iconst (v := 4) hx hb dX4_add_108 (by decide) ?_
              refine lv_iload_n hx hb dX4_add_109 rfl (lv_at hl 1 rfl) ?_
              refine lv_imul hx hb dX4_add_110 ?_
              refine lv_aload_n hx hb dX4_add_111 rfl (lv_at hl 0 rfl) ?_
              refine g_get (v := .ref (ad 139)) (T := TX4) C hP 136 4 (by decide) rfl rfl inwX4 (by decide) kf_X4_16 rfl dX4_add_112 ?_
              refine lv_iload_n hx hb dX4_add_115 rfl (lv_at hl 1 rfl) ?_
              refine g_iald (v := nI (lc x1.toNatClampNeg)) C hP 139 10 (by decide) (fun _ _ => rfl) x1.toNatClampNeg e3_0 ((congrFun (sI_row (by decide)) _).trans ((congrFun (sI_row (by decide)) _).trans ((congrFun (sI_row (by decide)) _).trans (hml x1.toNatClampNeg (by omega))))) (by omega) (by decide) dX4_add_116 ?_
              refine lv_iadd hx hb dX4_add_117 ?_
              refine lv_iload_n hx hb dX4_add_118 rfl (lv_at hl 3 rfl) ?_
              refine g_iast C hP hS 142 40 (by decide) (fun _ _ => rfl) ((4 * x1.toNatClampNeg) + (lc x1.toNatClampNeg)) (nI_addE (nI_mulE (show (4 : Int32) = nI 4 from rfl) e3_0) rfl) (by omega) (by decide) dX4_add_119 (fun H locs hP hS => ?_)
              refine lv_aload_n hx hb dX4_add_120 rfl (lv_at hl 0 rfl) ?_
              refine g_get (v := .ref (ad 139)) (T := TX4) C hP 136 4 (by decide) rfl rfl inwX4 (by decide) kf_X4_16 rfl dX4_add_121 ?_
              refine lv_iload_n hx hb dX4_add_124 rfl (lv_at hl 1 rfl) ?_
              refine lv_dup2_11 hx hb dX4_add_125 rfl rfl ?_
              refine g_iald (v := nI (lc x1.toNatClampNeg)) C hP 139 10 (by decide) (fun _ _ => rfl) x1.toNatClampNeg e3_0 ((congrFun (sI_row (by decide)) _).trans ((congrFun (sI_row (by decide)) _).trans ((congrFun (sI_row (by decide)) _).trans ((congrFun (sI_row (by decide)) _).trans (hml x1.toNatClampNeg (by omega)))))) (by omega) (by decide) dX4_add_126 ?_
              refine lv_iconst (v := 1) hx hb dX4_add_127 (by decide) ?_
              refine lv_iadd hx hb dX4_add_128 ?_
              refine g_iast C hP hS 139 10 (by decide) (fun _ _ => rfl) x1.toNatClampNeg e3_0 (by omega) (by decide) dX4_add_129 (fun H locs hP hS => ?_)
              refine lv_aload_n hx hb dX4_add_130 rfl (lv_at hl 0 rfl) ?_
              refine g_get (v := .ref (ad 139)) (T := TX4) C hP 136 4 (by decide) rfl rfl inwX4 (by decide) kf_X4_16 rfl dX4_add_131 ?_
              refine lv_iload_n hx hb dX4_add_134 rfl (lv_at hl 1 rfl) ?_
              refine g_iald (v := (nI (lc x1.toNatClampNeg)) + 1) C hP 139 10 (by decide) (fun _ _ => rfl) x1.toNatClampNeg e3_0 sI_eq (by omega) (by decide) dX4_add_135 ?_
              exact gM_iret C hr hP hS (by decide) (by decide) dX4_add_136 (Or.inr (Or.inr (Or.inl (⟨h3_0, h10_0, h33_0, h42_0, c58, n68, rfl, rfl, rfl⟩))))
            · have n68 : (lc x1.toNatClampNeg) = 4 := (nI_eqqE rfl (show (4 : Int32) = nI 4 from rfl) (by omega) (by omega)).mp c68
              refine lv_iconst (v := 3) hx hb dX4_add_71 (by decide) ?_
              refine lv_goto (tgt := 76) hx hb dX4_add_72 (by decide) ?_
              refine g_putI (T := TX4) C hP hS 136 0 (by decide) rfl rfl inwX4 tyX4 tyX4_ok nmX4 (by decide) kf_X4_65 rfl rfl (by decide : 0 < 20) (by simp only [sI, va_up_self]; rfl) dX4_add_76 (fun H locs hP hS => ?_)
              refine lv_aload_n hx hb dX4_add_79 rfl (lv_at hl 0 rfl) ?_
              refine g_get (v := .int 3) (T := TX4) C hP 136 0 (by decide) rfl rfl inwX4 (by decide) kf_X4_65 (congrArg (fun z => some (Value.int z)) sI_eq) dX4_add_80 ?_
              refine lv_if_le (tgt := 88) hx hb dX4_add_83 (by decide) (fun c => absurd c (by decide)) (fun _ => ?_)
              refine lv_iconst (v := 0) hx hb dX4_add_86 (by decide) ?_
              exact gM_iret C hr hP hS (by decide) (by decide) dX4_add_87 (Or.inr (Or.inr (Or.inr (Or.inl (⟨h3_0, h10_0, h33_0, h42_0, c58, n68, rfl, rfl, rfl⟩)))))
      · refine lv_if_eq (tgt := 48) hx hb dX4_add_36 (by decide) (fun _ => ?_) (fun c => absurd c (by decide))
        refine lv_iconst (v := 2) hx hb dX4_add_48 (by decide) ?_
        refine lv_goto (tgt := 76) hx hb dX4_add_49 (by decide) ?_
        refine g_putI (T := TX4) C hP hS 136 0 (by decide) rfl rfl inwX4 tyX4 tyX4_ok nmX4 (by decide) kf_X4_65 rfl rfl (by decide : 0 < 20) (by simp only [sI, va_up_self]; rfl) dX4_add_76 (fun H locs hP hS => ?_)
        refine lv_aload_n hx hb dX4_add_79 rfl (lv_at hl 0 rfl) ?_
        refine g_get (v := .int 2) (T := TX4) C hP 136 0 (by decide) rfl rfl inwX4 (by decide) kf_X4_65 (congrArg (fun z => some (Value.int z)) sI_eq) dX4_add_80 ?_
        refine lv_if_le (tgt := 88) hx hb dX4_add_83 (by decide) (fun c => absurd c (by decide)) (fun _ => ?_)
        refine lv_iconst (v := 0) hx hb dX4_add_86 (by decide) ?_
        exact gM_iret C hr hP hS (by decide) (by decide) dX4_add_87 (Or.inr (Or.inr (Or.inr (Or.inr (Or.inl (⟨h3_0, h10_0, h33_0, rfl, rfl, rfl⟩))))))
    · refine lv_if_ne (tgt := 20) hx hb dX4_add_13 (by decide) (fun c => absurd c (by decide)) (fun _ => ?_)
      refine lv_iconst (v := 1) hx hb dX4_add_16 (by decide) ?_
      refine lv_goto (tgt := 21) hx hb dX4_add_17 (by decide) ?_
      refine g_putI (T := TX4) C hP hS 136 0 (by decide) rfl rfl inwX4 tyX4 tyX4_ok nmX4 (by decide) kf_X4_65 rfl rfl (by decide : 0 < 20) (by simp only [sI, va_up_self]; rfl) dX4_add_21 (fun H locs hP hS => ?_)
      refine lv_aload_n hx hb dX4_add_24 rfl (lv_at hl 0 rfl) ?_
      refine g_get (v := .int 1) (T := TX4) C hP 136 0 (by decide) rfl rfl inwX4 (by decide) kf_X4_65 (congrArg (fun z => some (Value.int z)) sI_eq) dX4_add_25 ?_
      refine lv_if_ne (tgt := 79) hx hb dX4_add_28 (by decide) (fun _ => ?_) (fun c => absurd c (by decide))
      refine lv_aload_n hx hb dX4_add_79 rfl (lv_at hl 0 rfl) ?_
      refine g_get (v := .int 1) (T := TX4) C hP 136 0 (by decide) rfl rfl inwX4 (by decide) kf_X4_65 (congrArg (fun z => some (Value.int z)) sI_eq) dX4_add_80 ?_
      refine lv_if_le (tgt := 88) hx hb dX4_add_83 (by decide) (fun c => absurd c (by decide)) (fun _ => ?_)
      refine lv_iconst (v := 0) hx hb dX4_add_86 (by decide) ?_
      exact gM_iret C hr hP hS (by decide) (by decide) dX4_add_87 (Or.inr (Or.inr (Or.inr (Or.inr (Or.inr (Or.inl (⟨h3_0, h10_0, rfl, rfl, rfl⟩)))))))
  · refine lv_if_eq (tgt := 16) hx hb dX4_add_6 (by decide) (fun _ => ?_) (fun c => absurd c (by decide))
    refine lv_iconst (v := 1) hx hb dX4_add_16 (by decide) ?_
    refine lv_goto (tgt := 21) hx hb dX4_add_17 (by decide) ?_
    refine g_putI (T := TX4) C hP hS 136 0 (by decide) rfl rfl inwX4 tyX4 tyX4_ok nmX4 (by decide) kf_X4_65 rfl rfl (by decide : 0 < 20) (by simp only [sI, va_up_self]; rfl) dX4_add_21 (fun H locs hP hS => ?_)
    refine lv_aload_n hx hb dX4_add_24 rfl (lv_at hl 0 rfl) ?_
    refine g_get (v := .int 1) (T := TX4) C hP 136 0 (by decide) rfl rfl inwX4 (by decide) kf_X4_65 (congrArg (fun z => some (Value.int z)) sI_eq) dX4_add_25 ?_
    refine lv_if_ne (tgt := 79) hx hb dX4_add_28 (by decide) (fun _ => ?_) (fun c => absurd c (by decide))
    refine lv_aload_n hx hb dX4_add_79 rfl (lv_at hl 0 rfl) ?_
    refine g_get (v := .int 1) (T := TX4) C hP 136 0 (by decide) rfl rfl inwX4 (by decide) kf_X4_65 (congrArg (fun z => some (Value.int z)) sI_eq) dX4_add_80 ?_
    refine lv_if_le (tgt := 88) hx hb dX4_add_83 (by decide) (fun c => absurd c (by decide)) (fun _ => ?_)
    refine lv_iconst (v := 0) hx hb dX4_add_86 (by decide) ?_
    exact gM_iret C hr hP hS (by decide) (by decide) dX4_add_87 (Or.inr (Or.inr (Or.inr (Or.inr (Or.inr (Or.inr (⟨h3_0, rfl, rfl, rfl⟩)))))))
def pq_X4_certify (np : Nat) (lc : Nat → Nat) (x1 : Int32) (x2 : Int32) (I : MI) (L : ML) : MI → ML → Prop := fun I' L' => (vp_in x1 8 ∧ vp_in x2 np ∧ (x1 = 0 ∨ x1 = 1) ∧ 0 ≤ (I 140 x2.toNatClampNeg) ∧ (sI (sI I 136 0 0) 136 0 3) = I' ∧ L = L') ∨ (vp_in x1 8 ∧ vp_in x2 np ∧ (x1 = 0 ∨ x1 = 1) ∧ ¬ 0 ≤ (I 140 x2.toNatClampNeg) ∧ (lc x2.toNatClampNeg) = 1 ∧ (sI (sI I 136 0 0) 136 0 3) = I' ∧ L = L') ∨ (vp_in x1 8 ∧ vp_in x2 np ∧ (x1 = 0 ∨ x1 = 1) ∧ ¬ 0 ≤ (I 140 x2.toNatClampNeg) ∧ ¬ (lc x2.toNatClampNeg) = 1 ∧ (gsm (gmS (sI I 136 0 0) x2.toNatClampNeg) (lc x2.toNatClampNeg)) = 0 ∧ (sI (sI (sI I 136 0 0) 136 0 0) 140 x2.toNatClampNeg x1) = I' ∧ L = L') ∨ (vp_in x1 8 ∧ vp_in x2 np ∧ (x1 = 0 ∨ x1 = 1) ∧ ¬ 0 ≤ (I 140 x2.toNatClampNeg) ∧ ¬ (lc x2.toNatClampNeg) = 1 ∧ ¬ (gsm (gmS (sI I 136 0 0) x2.toNatClampNeg) (lc x2.toNatClampNeg)) = 0 ∧ (sI (sI I 136 0 0) 136 0 3) = I' ∧ L = L') ∨ (vp_in x1 8 ∧ vp_in x2 np ∧ (¬ (x1 = 0 ∨ x1 = 1)) ∧ (sI I 136 0 2) = I' ∧ L = L') ∨ (vp_in x1 8 ∧ ¬ vp_in x2 np ∧ (sI I 136 0 1) = I' ∧ L = L') ∨ (¬ vp_in x1 8 ∧ (sI I 136 0 1) = I' ∧ L = L')
set_option maxRecDepth 100000 in
set_option maxHeartbeats 4000000 in
theorem ct_X4_certify (l : Launch) (D : va_G) (cy : Nat → ClassId) (ad : Nat → Nat) (hJ : gJ ad) (np : Nat) (lc : Nat → Nat) (x1 : Int32) (x2 : Int32) (I : MI) (L : ML) (hmp : I 136 3 = nI np) (hmp10 : np ≤ 10) (hml : ∀ p, p < 10 → I 139 p = nI (lc p)) (hml4 : ∀ p, p < 10 → lc p ≤ 4) : gMv l D cy ad yX4_certify cX4_certify 3 (gR 1 0 0) [.ref (ad 136), .int x1, .int x2] I L (pq_X4_certify np lc x1 x2 I L) := by
  refine gMv_of hJ (by decide +kernel) kc_X4_certify (Nat.le_of_ble_eq_true rfl) (fun p e s m below meth c A ls C hr hP hS hl => ?_)
  have hx := C.hx
  have hb := C.hb
  have hl : lv_has ls 3 [(0, .ref (ad 136)), (1, .int x1), (2, .int x2)] := hl
  refine lv_aload_n hx hb dX4_certify_0 rfl (lv_at hl 0 rfl) ?_
  refine lv_iload_n hx hb dX4_certify_1 rfl (lv_at hl 1 rfl) ?_
  refine gM_callSi (As := [.int x1]) (rest := [.ref (ad 136)]) C hP hS hl.1 (ct_X4_isOne l D cy ad hJ x1 I L) fa_X4_isOne kl_X4_72 kst_X4_isOne rfl (by decide) (Nat.le_of_ble_eq_true rfl) (by decide) dX4_certify_2 rfl (fun r2 I2 L2 H locs hq hP hS => ?_)
  rcases hq with ⟨h2_0, rfl, rfl, rfl⟩ | ⟨h2_0, rfl, rfl, rfl⟩
  · obtain ⟨e2_0, l2_0⟩ := vp_ix h2_0
    refine lv_if_eq (tgt := 16) hx hb dX4_certify_5 (by decide) (fun c => absurd c (by decide)) (fun _ => ?_)
    refine lv_aload_n hx hb dX4_certify_8 rfl (lv_at hl 0 rfl) ?_
    refine lv_iload_n hx hb dX4_certify_9 rfl (lv_at hl 2 rfl) ?_
    refine gM_callVi (As := [.int x2]) (rest := [.ref (ad 136)]) C hP hS hl.1 (ct_X4_isProcedure l D cy ad hJ np x2 I L hmp hmp10) fa_X4_isProcedure kl_X4_79 ki_X4_isProcedure kse_X4_isProcedure (by decide) (T := TX4) rfl rfl rfl (by decide) (Nat.le_of_ble_eq_true rfl) (by decide) dX4_certify_10 rfl (fun r10 I10 L10 H locs hq hP hS => ?_)
    rcases hq with ⟨h10_0, rfl, rfl, rfl⟩ | ⟨h10_0, rfl, rfl, rfl⟩
    · obtain ⟨e10_0, l10_0⟩ := vp_ix h10_0
      have q10_0 := hml4 x2.toNatClampNeg (by omega)
      refine lv_if_ne (tgt := 20) hx hb dX4_certify_13 (by decide) (fun _ => ?_) (fun c => absurd c (by decide))
      refine lv_iload_n hx hb dX4_certify_20 rfl (lv_at hl 1 rfl) ?_
      refine gM_callSi (As := [.int x1]) (rest := [.ref (ad 136)]) C hP hS hl.1 (ct_X4_isOfficer l D cy ad hJ x1 I L) fa_X4_isOfficer kl_X4_86 kst_X4_isOfficer rfl (by decide) (Nat.le_of_ble_eq_true rfl) (by decide) dX4_certify_21 rfl (fun r21 I21 L21 H locs hq hP hS => ?_)
      rcases hq with ⟨h21_0, rfl, rfl, rfl⟩ | ⟨h21_0, rfl, rfl, rfl⟩
      · refine lv_if_ne (tgt := 31) hx hb dX4_certify_24 (by decide) (fun _ => ?_) (fun c => absurd c (by decide))
        refine lv_iconst (v := 0) hx hb dX4_certify_31 (by decide) ?_
        refine g_putI (T := TX4) C hP hS 136 0 (by decide) rfl rfl inwX4 tyX4 tyX4_ok nmX4 (by decide) kf_X4_65 rfl rfl (by decide : 0 < 20) (by simp only [sI, va_up_self]; rfl) dX4_certify_32 (fun H locs hP hS => ?_)
        refine lv_aload_n hx hb dX4_certify_35 rfl (lv_at hl 0 rfl) ?_
        refine g_get (v := .int 0) (T := TX4) C hP 136 0 (by decide) rfl rfl inwX4 (by decide) kf_X4_65 (congrArg (fun z => some (Value.int z)) sI_eq) dX4_certify_36 ?_
        refine lv_if_ne (tgt := 78) hx hb dX4_certify_39 (by decide) (fun c => absurd c (by decide)) (fun _ => ?_)
        refine lv_aload_n hx hb dX4_certify_42 rfl (lv_at hl 0 rfl) ?_
        refine lv_aload_n hx hb dX4_certify_43 rfl (lv_at hl 0 rfl) ?_
        refine g_get (v := .ref (ad 140)) (T := TX4) C hP 136 5 (by decide) rfl rfl inwX4 (by decide) kf_X4_20 rfl dX4_certify_44 ?_
        refine lv_iload_n hx hb dX4_certify_47 rfl (lv_at hl 2 rfl) ?_
        refine g_iald (v := I 140 x2.toNatClampNeg) C hP 140 10 (by decide) (fun _ _ => rfl) x2.toNatClampNeg e10_0 (congrFun (sI_row (by decide)) _) (by omega) (by decide) dX4_certify_48 ?_
        refine lv_if_ge (tgt := 70) hx hb dX4_certify_49 (by decide) (fun c49 => ?_) (fun c49 => ?_)
        · refine lv_iconst (v := 3) hx hb dX4_certify_70 (by decide) ?_
          refine lv_goto (tgt := 75) hx hb dX4_certify_71 (by decide) ?_
          refine g_putI (T := TX4) C hP hS 136 0 (by decide) rfl rfl inwX4 tyX4 tyX4_ok nmX4 (by decide) kf_X4_65 rfl rfl (by decide : 0 < 20) (by simp only [sI, va_up_self]; rfl) dX4_certify_75 (fun H locs hP hS => ?_)
          refine lv_aload_n hx hb dX4_certify_78 rfl (lv_at hl 0 rfl) ?_
          refine g_get (v := .int 3) (T := TX4) C hP 136 0 (by decide) rfl rfl inwX4 (by decide) kf_X4_65 (congrArg (fun z => some (Value.int z)) sI_eq) dX4_certify_79 ?_
          refine lv_if_ne (tgt := 92) hx hb dX4_certify_82 (by decide) (fun _ => ?_) (fun c => absurd c (by decide))
          exact gM_vret C hr hP hS (by decide) (by decide) dX4_certify_92 (Or.inl (⟨h2_0, h10_0, h21_0, c49, rfl, rfl⟩))
        · refine lv_aload_n hx hb dX4_certify_52 rfl (lv_at hl 0 rfl) ?_
          refine g_get (v := .ref (ad 139)) (T := TX4) C hP 136 4 (by decide) rfl rfl inwX4 (by decide) kf_X4_16 rfl dX4_certify_53 ?_
          refine lv_iload_n hx hb dX4_certify_56 rfl (lv_at hl 2 rfl) ?_
          refine g_iald (v := nI (lc x2.toNatClampNeg)) C hP 139 10 (by decide) (fun _ _ => rfl) x2.toNatClampNeg e10_0 ((congrFun (sI_row (by decide)) _).trans (hml x2.toNatClampNeg (by omega))) (by omega) (by decide) dX4_certify_57 ?_
          refine lv_iconst (v := 1) hx hb dX4_certify_58 (by decide) ?_
          refine lv_icmp_eq (tgt := 70) hx hb dX4_certify_59 (by decide) (fun c59 => ?_) (fun c59 => ?_)
          · have n59 : (lc x2.toNatClampNeg) = 1 := (nI_eqqE rfl (show (1 : Int32) = nI 1 from rfl) (by omega) (by omega)).mp c59
            refine lv_iconst (v := 3) hx hb dX4_certify_70 (by decide) ?_
            refine lv_goto (tgt := 75) hx hb dX4_certify_71 (by decide) ?_
            refine g_putI (T := TX4) C hP hS 136 0 (by decide) rfl rfl inwX4 tyX4 tyX4_ok nmX4 (by decide) kf_X4_65 rfl rfl (by decide : 0 < 20) (by simp only [sI, va_up_self]; rfl) dX4_certify_75 (fun H locs hP hS => ?_)
            refine lv_aload_n hx hb dX4_certify_78 rfl (lv_at hl 0 rfl) ?_
            refine g_get (v := .int 3) (T := TX4) C hP 136 0 (by decide) rfl rfl inwX4 (by decide) kf_X4_65 (congrArg (fun z => some (Value.int z)) sI_eq) dX4_certify_79 ?_
            refine lv_if_ne (tgt := 92) hx hb dX4_certify_82 (by decide) (fun _ => ?_) (fun c => absurd c (by decide))
            exact gM_vret C hr hP hS (by decide) (by decide) dX4_certify_92 (Or.inr (Or.inl (⟨h2_0, h10_0, h21_0, c49, n59, rfl, rfl⟩)))
          · have n59 : ¬ (lc x2.toNatClampNeg) = 1 := (not_congr (nI_eqqE rfl (show (1 : Int32) = nI 1 from rfl) (by omega) (by omega))).mp c59
            refine lv_aload_n hx hb dX4_certify_62 rfl (lv_at hl 0 rfl) ?_
            refine lv_iload_n hx hb dX4_certify_63 rfl (lv_at hl 2 rfl) ?_
            refine gM_callVi (As := [.int x2]) (rest := [.ref (ad 136)]) C hP hS hl.1 (ct_X4_allShares l D cy ad hJ x2.toNatClampNeg (lc x2.toNatClampNeg) x2 (sI I 136 0 0) L e10_0 (by omega) (hml x2.toNatClampNeg (by omega)) (hml4 x2.toNatClampNeg (by omega))) fa_X4_allShares kl_X4_89 ki_X4_allShares kse_X4_allShares (by decide) (T := TX4) rfl rfl rfl (by decide) (Nat.le_of_ble_eq_true rfl) (by decide) dX4_certify_64 rfl (fun r64 I64 L64 H locs hq hP hS => ?_)
            obtain ⟨rfl, rfl, rfl⟩ := hq
            refine lv_if_eq (tgt := 74) hx hb dX4_certify_67 (by decide) (fun c67 => ?_) (fun c67 => ?_)
            · refine lv_iconst (v := 0) hx hb dX4_certify_74 (by decide) ?_
              refine g_putI (T := TX4) C hP hS 136 0 (by decide) rfl rfl inwX4 tyX4 tyX4_ok nmX4 (by decide) kf_X4_65 rfl rfl (by decide : 0 < 20) (by simp only [sI, va_up_self]; rfl) dX4_certify_75 (fun H locs hP hS => ?_)
              refine lv_aload_n hx hb dX4_certify_78 rfl (lv_at hl 0 rfl) ?_
              refine g_get (v := .int 0) (T := TX4) C hP 136 0 (by decide) rfl rfl inwX4 (by decide) kf_X4_65 (congrArg (fun z => some (Value.int z)) sI_eq) dX4_certify_79 ?_
              refine lv_if_ne (tgt := 92) hx hb dX4_certify_82 (by decide) (fun c => absurd c (by decide)) (fun _ => ?_)
              refine lv_aload_n hx hb dX4_certify_85 rfl (lv_at hl 0 rfl) ?_
              refine g_get (v := .ref (ad 140)) (T := TX4) C hP 136 5 (by decide) rfl rfl inwX4 (by decide) kf_X4_20 rfl dX4_certify_86 ?_
              refine lv_iload_n hx hb dX4_certify_89 rfl (lv_at hl 2 rfl) ?_
              refine lv_iload_n hx hb dX4_certify_90 rfl (lv_at hl 1 rfl) ?_
              refine g_iast C hP hS 140 10 (by decide) (fun _ _ => rfl) x2.toNatClampNeg e10_0 (by omega) (by decide) dX4_certify_91 (fun H locs hP hS => ?_)
              exact gM_vret C hr hP hS (by decide) (by decide) dX4_certify_92 (Or.inr (Or.inr (Or.inl (⟨h2_0, h10_0, h21_0, c49, n59, c67, rfl, rfl⟩))))
            · refine lv_iconst (v := 3) hx hb dX4_certify_70 (by decide) ?_
              refine lv_goto (tgt := 75) hx hb dX4_certify_71 (by decide) ?_
              refine g_putI (T := TX4) C hP hS 136 0 (by decide) rfl rfl inwX4 tyX4 tyX4_ok nmX4 (by decide) kf_X4_65 rfl rfl (by decide : 0 < 20) (by simp only [sI, va_up_self]; rfl) dX4_certify_75 (fun H locs hP hS => ?_)
              refine lv_aload_n hx hb dX4_certify_78 rfl (lv_at hl 0 rfl) ?_
              refine g_get (v := .int 3) (T := TX4) C hP 136 0 (by decide) rfl rfl inwX4 (by decide) kf_X4_65 (congrArg (fun z => some (Value.int z)) sI_eq) dX4_certify_79 ?_
              refine lv_if_ne (tgt := 92) hx hb dX4_certify_82 (by decide) (fun _ => ?_) (fun c => absurd c (by decide))
              exact gM_vret C hr hP hS (by decide) (by decide) dX4_certify_92 (Or.inr (Or.inr (Or.inr (Or.inl (⟨h2_0, h10_0, h21_0, c49, n59, c67, rfl, rfl⟩)))))
      · refine lv_if_ne (tgt := 31) hx hb dX4_certify_24 (by decide) (fun c => absurd c (by decide)) (fun _ => ?_)
        refine lv_iconst (v := 2) hx hb dX4_certify_27 (by decide) ?_
        refine lv_goto (tgt := 32) hx hb dX4_certify_28 (by decide) ?_
        refine g_putI (T := TX4) C hP hS 136 0 (by decide) rfl rfl inwX4 tyX4 tyX4_ok nmX4 (by decide) kf_X4_65 rfl rfl (by decide : 0 < 20) (by simp only [sI, va_up_self]; rfl) dX4_certify_32 (fun H locs hP hS => ?_)
        refine lv_aload_n hx hb dX4_certify_35 rfl (lv_at hl 0 rfl) ?_
        refine g_get (v := .int 2) (T := TX4) C hP 136 0 (by decide) rfl rfl inwX4 (by decide) kf_X4_65 (congrArg (fun z => some (Value.int z)) sI_eq) dX4_certify_36 ?_
        refine lv_if_ne (tgt := 78) hx hb dX4_certify_39 (by decide) (fun _ => ?_) (fun c => absurd c (by decide))
        refine lv_aload_n hx hb dX4_certify_78 rfl (lv_at hl 0 rfl) ?_
        refine g_get (v := .int 2) (T := TX4) C hP 136 0 (by decide) rfl rfl inwX4 (by decide) kf_X4_65 (congrArg (fun z => some (Value.int z)) sI_eq) dX4_certify_79 ?_
        refine lv_if_ne (tgt := 92) hx hb dX4_certify_82 (by decide) (fun _ => ?_) (fun c => absurd c (by decide))
        exact gM_vret C hr hP hS (by decide) (by decide) dX4_certify_92 (Or.inr (Or.inr (Or.inr (Or.inr (Or.inl (⟨h2_0, h10_0, h21_0, rfl, rfl⟩))))))
    · refine lv_if_ne (tgt := 20) hx hb dX4_certify_13 (by decide) (fun c => absurd c (by decide)) (fun _ => ?_)
      refine lv_iconst (v := 1) hx hb dX4_certify_16 (by decide) ?_
      refine lv_goto (tgt := 32) hx hb dX4_certify_17 (by decide) ?_
      refine g_putI (T := TX4) C hP hS 136 0 (by decide) rfl rfl inwX4 tyX4 tyX4_ok nmX4 (by decide) kf_X4_65 rfl rfl (by decide : 0 < 20) (by simp only [sI, va_up_self]; rfl) dX4_certify_32 (fun H locs hP hS => ?_)
      refine lv_aload_n hx hb dX4_certify_35 rfl (lv_at hl 0 rfl) ?_
      refine g_get (v := .int 1) (T := TX4) C hP 136 0 (by decide) rfl rfl inwX4 (by decide) kf_X4_65 (congrArg (fun z => some (Value.int z)) sI_eq) dX4_certify_36 ?_
      refine lv_if_ne (tgt := 78) hx hb dX4_certify_39 (by decide) (fun _ => ?_) (fun c => absurd c (by decide))
      refine lv_aload_n hx hb dX4_certify_78 rfl (lv_at hl 0 rfl) ?_
      refine g_get (v := .int 1) (T := TX4) C hP 136 0 (by decide) rfl rfl inwX4 (by decide) kf_X4_65 (congrArg (fun z => some (Value.int z)) sI_eq) dX4_certify_79 ?_
      refine lv_if_ne (tgt := 92) hx hb dX4_certify_82 (by decide) (fun _ => ?_) (fun c => absurd c (by decide))
      exact gM_vret C hr hP hS (by decide) (by decide) dX4_certify_92 (Or.inr (Or.inr (Or.inr (Or.inr (Or.inr (Or.inl (⟨h2_0, h10_0, rfl, rfl⟩)))))))
  · refine lv_if_eq (tgt := 16) hx hb dX4_certify_5 (by decide) (fun _ => ?_) (fun c => absurd c (by decide))
    refine lv_iconst (v := 1) hx hb dX4_certify_16 (by decide) ?_
    refine lv_goto (tgt := 32) hx hb dX4_certify_17 (by decide) ?_
    refine g_putI (T := TX4) C hP hS 136 0 (by decide) rfl rfl inwX4 tyX4 tyX4_ok nmX4 (by decide) kf_X4_65 rfl rfl (by decide : 0 < 20) (by simp only [sI, va_up_self]; rfl) dX4_certify_32 (fun H locs hP hS => ?_)
    refine lv_aload_n hx hb dX4_certify_35 rfl (lv_at hl 0 rfl) ?_
    refine g_get (v := .int 1) (T := TX4) C hP 136 0 (by decide) rfl rfl inwX4 (by decide) kf_X4_65 (congrArg (fun z => some (Value.int z)) sI_eq) dX4_certify_36 ?_
    refine lv_if_ne (tgt := 78) hx hb dX4_certify_39 (by decide) (fun _ => ?_) (fun c => absurd c (by decide))
    refine lv_aload_n hx hb dX4_certify_78 rfl (lv_at hl 0 rfl) ?_
    refine g_get (v := .int 1) (T := TX4) C hP 136 0 (by decide) rfl rfl inwX4 (by decide) kf_X4_65 (congrArg (fun z => some (Value.int z)) sI_eq) dX4_certify_79 ?_
    refine lv_if_ne (tgt := 92) hx hb dX4_certify_82 (by decide) (fun _ => ?_) (fun c => absurd c (by decide))
    exact gM_vret C hr hP hS (by decide) (by decide) dX4_certify_92 (Or.inr (Or.inr (Or.inr (Or.inr (Or.inr (Or.inr (⟨h2_0, rfl, rfl⟩)))))))
def pq_X4_grant (np : Nat) (x1 : Int32) (x2 : Int32) (x3 : Int32) (x4 : Int32) (I : MI) (L : ML) : Int32 → MI → ML → Prop := fun r I' L' => (vp_in x1 8 ∧ vp_in x2 8 ∧ vp_in x3 np ∧ (x1 = 0 ∨ x1 = 1) ∧ ¬ x1.toNatClampNeg = x2.toNatClampNeg ∧ (I 143 ((8 * x3.toNatClampNeg) + x2.toNatClampNeg)) = x4 ∧ (0 : Int32) = r ∧ (sI (sI I 136 0 0) 143 ((8 * x3.toNatClampNeg) + x2.toNatClampNeg) x4) = I' ∧ L = L') ∨ (vp_in x1 8 ∧ vp_in x2 8 ∧ vp_in x3 np ∧ (x1 = 0 ∨ x1 = 1) ∧ ¬ x1.toNatClampNeg = x2.toNatClampNeg ∧ ¬ (I 143 ((8 * x3.toNatClampNeg) + x2.toNatClampNeg)) = x4 ∧ (1 : Int32) = r ∧ (sI (sI I 136 0 0) 143 ((8 * x3.toNatClampNeg) + x2.toNatClampNeg) x4) = I' ∧ L = L') ∨ (vp_in x1 8 ∧ vp_in x2 8 ∧ vp_in x3 np ∧ (x1 = 0 ∨ x1 = 1) ∧ x1.toNatClampNeg = x2.toNatClampNeg ∧ (0 : Int32) = r ∧ (sI I 136 0 2) = I' ∧ L = L') ∨ (vp_in x1 8 ∧ vp_in x2 8 ∧ vp_in x3 np ∧ (¬ (x1 = 0 ∨ x1 = 1)) ∧ (0 : Int32) = r ∧ (sI I 136 0 2) = I' ∧ L = L') ∨ (vp_in x1 8 ∧ vp_in x2 8 ∧ ¬ vp_in x3 np ∧ (0 : Int32) = r ∧ (sI I 136 0 1) = I' ∧ L = L') ∨ (vp_in x1 8 ∧ ¬ vp_in x2 8 ∧ (0 : Int32) = r ∧ (sI I 136 0 1) = I' ∧ L = L') ∨ (¬ vp_in x1 8 ∧ (0 : Int32) = r ∧ (sI I 136 0 1) = I' ∧ L = L')
set_option maxRecDepth 100000 in
set_option maxHeartbeats 4000000 in
theorem ct_X4_grant (l : Launch) (D : va_G) (cy : Nat → ClassId) (ad : Nat → Nat) (hJ : gJ ad) (np : Nat) (x1 : Int32) (x2 : Int32) (x3 : Int32) (x4 : Int32) (I : MI) (L : ML) (hmp : I 136 3 = nI np) (hmp10 : np ≤ 10) (hb4 : x4 = 0 ∨ x4 = 1) : gMi l D cy ad yX4_grant cX4_grant 6 .boolean (gR 1 0 0) [.ref (ad 136), .int x1, .int x2, .int x3, .int x4] I L (pq_X4_grant np x1 x2 x3 x4 I L) := by
  refine gMi_of hJ (by decide +kernel) kc_X4_grant (Nat.le_of_ble_eq_true rfl) (fun p e s m below meth c A ls C hr hP hS hl => ?_)
  have hx := C.hx
  have hb := C.hb
  have hl : lv_has ls 6 [(0, .ref (ad 136)), (1, .int x1), (2, .int x2), (3, .int x3), (4, .int x4)] := hl
  refine lv_aload_n hx hb dX4_grant_0 rfl (lv_at hl 0 rfl) ?_
  refine lv_iload_n hx hb dX4_grant_1 rfl (lv_at hl 1 rfl) ?_
  refine gM_callSi (As := [.int x1]) (rest := [.ref (ad 136)]) C hP hS hl.1 (ct_X4_isOne l D cy ad hJ x1 I L) fa_X4_isOne kl_X4_72 kst_X4_isOne rfl (by decide) (Nat.le_of_ble_eq_true rfl) (by decide) dX4_grant_2 rfl (fun r2 I2 L2 H locs hq hP hS => ?_)
  rcases hq with ⟨h2_0, rfl, rfl, rfl⟩ | ⟨h2_0, rfl, rfl, rfl⟩
  · obtain ⟨e2_0, l2_0⟩ := vp_ix h2_0
    refine lv_if_eq (tgt := 23) hx hb dX4_grant_5 (by decide) (fun c => absurd c (by decide)) (fun _ => ?_)
    refine lv_iload_n hx hb dX4_grant_8 rfl (lv_at hl 2 rfl) ?_
    refine gM_callSi (As := [.int x2]) (rest := [.ref (ad 136)]) C hP hS hl.1 (ct_X4_isOne l D cy ad hJ x2 I L) fa_X4_isOne kl_X4_72 kst_X4_isOne rfl (by decide) (Nat.le_of_ble_eq_true rfl) (by decide) dX4_grant_9 rfl (fun r9 I9 L9 H locs hq hP hS => ?_)
    rcases hq with ⟨h9_0, rfl, rfl, rfl⟩ | ⟨h9_0, rfl, rfl, rfl⟩
    · obtain ⟨e9_0, l9_0⟩ := vp_ix h9_0
      refine lv_if_eq (tgt := 23) hx hb dX4_grant_12 (by decide) (fun c => absurd c (by decide)) (fun _ => ?_)
      refine lv_aload_n hx hb dX4_grant_15 rfl (lv_at hl 0 rfl) ?_
      refine lv_iload_n hx hb dX4_grant_16 rfl (lv_at hl 3 rfl) ?_
      refine gM_callVi (As := [.int x3]) (rest := [.ref (ad 136)]) C hP hS hl.1 (ct_X4_isProcedure l D cy ad hJ np x3 I L hmp hmp10) fa_X4_isProcedure kl_X4_79 ki_X4_isProcedure kse_X4_isProcedure (by decide) (T := TX4) rfl rfl rfl (by decide) (Nat.le_of_ble_eq_true rfl) (by decide) dX4_grant_17 rfl (fun r17 I17 L17 H locs hq hP hS => ?_)
      rcases hq with ⟨h17_0, rfl, rfl, rfl⟩ | ⟨h17_0, rfl, rfl, rfl⟩
      · obtain ⟨e17_0, l17_0⟩ := vp_ix h17_0
        refine lv_if_ne (tgt := 27) hx hb dX4_grant_20 (by decide) (fun _ => ?_) (fun c => absurd c (by decide))
        refine lv_iload_n hx hb dX4_grant_27 rfl (lv_at hl 1 rfl) ?_
        refine gM_callSi (As := [.int x1]) (rest := [.ref (ad 136)]) C hP hS hl.1 (ct_X4_isOfficer l D cy ad hJ x1 I L) fa_X4_isOfficer kl_X4_86 kst_X4_isOfficer rfl (by decide) (Nat.le_of_ble_eq_true rfl) (by decide) dX4_grant_28 rfl (fun r28 I28 L28 H locs hq hP hS => ?_)
        rcases hq with ⟨h28_0, rfl, rfl, rfl⟩ | ⟨h28_0, rfl, rfl, rfl⟩
        · refine lv_if_eq (tgt := 39) hx hb dX4_grant_31 (by decide) (fun c => absurd c (by decide)) (fun _ => ?_)
          refine lv_iload_n hx hb dX4_grant_34 rfl (lv_at hl 1 rfl) ?_
          refine lv_iload_n hx hb dX4_grant_35 rfl (lv_at hl 2 rfl) ?_
          refine lv_icmp_ne (tgt := 43) hx hb dX4_grant_36 (by decide) (fun c36 => ?_) (fun c36 => ?_)
          · have n36 : ¬ x1.toNatClampNeg = x2.toNatClampNeg := (not_congr (nI_eqqE e2_0 e9_0 (by omega) (by omega))).mp c36
            refine lv_iconst (v := 0) hx hb dX4_grant_43 (by decide) ?_
            refine g_putI (T := TX4) C hP hS 136 0 (by decide) rfl rfl inwX4 tyX4 tyX4_ok nmX4 (by decide) kf_X4_65 rfl rfl (by decide : 0 < 20) (by simp only [sI, va_up_self]; rfl) dX4_grant_44 (fun H locs hP hS => ?_)
            refine lv_aload_n hx hb dX4_grant_47 rfl (lv_at hl 0 rfl) ?_
            refine g_get (v := .int 0) (T := TX4) C hP 136 0 (by decide) rfl rfl inwX4 (by decide) kf_X4_65 (congrArg (fun z => some (Value.int z)) sI_eq) dX4_grant_48 ?_
            refine lv_if_le (tgt := 56) hx hb dX4_grant_51 (by decide) (fun _ => ?_) (fun c => absurd c (by decide))
            refine lv_aload_n hx hb dX4_grant_56 rfl (lv_at hl 0 rfl) ?_
            refine g_get (v := .ref (ad 143)) (T := TX4) C hP 136 8 (by decide) rfl rfl inwX4 (by decide) kf_X4_29 rfl dX4_grant_57 ?_
            refine lv_bipush (v := 8) hx hb dX4_grant_60 (by decide) ?_
            refine lv_iload_n hx hb dX4_grant_62 rfl (lv_at hl 3 rfl) ?_
            refine lv_imul hx hb dX4_grant_63 ?_
            refine lv_iload_n hx hb dX4_grant_64 rfl (lv_at hl 2 rfl) ?_
            refine lv_iadd hx hb dX4_grant_65 ?_
            refine g_zald (v := I 143 ((8 * x3.toNatClampNeg) + x2.toNatClampNeg)) C hP 143 80 (by decide) (fun _ _ => rfl) ((8 * x3.toNatClampNeg) + x2.toNatClampNeg) (nI_addE (nI_mulE (show (8 : Int32) = nI 8 from rfl) e17_0) e9_0) (congrFun (sI_row (by decide)) _) (by omega) (by decide) dX4_grant_66 ?_
            refine lv_istore (lv' := [(5, .int (I 143 ((8 * x3.toNatClampNeg) + x2.toNatClampNeg))), (0, .ref (ad 136)), (1, .int x1), (2, .int x2), (3, .int x3), (4, .int x4)]) hx hb dX4_grant_67 hl (by decide) rfl (fun ls hl => ?_)
            refine lv_aload_n hx hb dX4_grant_69 rfl (lv_at hl 1 rfl) ?_
            refine g_get (v := .ref (ad 143)) (T := TX4) C hP 136 8 (by decide) rfl rfl inwX4 (by decide) kf_X4_29 rfl dX4_grant_70 ?_
            refine lv_bipush (v := 8) hx hb dX4_grant_73 (by decide) ?_
            refine lv_iload_n hx hb dX4_grant_75 rfl (lv_at hl 4 rfl) ?_
            refine lv_imul hx hb dX4_grant_76 ?_
            refine lv_iload_n hx hb dX4_grant_77 rfl (lv_at hl 3 rfl) ?_
            refine lv_iadd hx hb dX4_grant_78 ?_
            refine lv_iload hx hb dX4_grant_79 (lv_at hl 5 rfl) ?_
            refine g_zast C hP hS 143 80 (by decide) (fun _ _ => rfl) (gb_nar hb4) ((8 * x3.toNatClampNeg) + x2.toNatClampNeg) (nI_addE (nI_mulE (show (8 : Int32) = nI 8 from rfl) e17_0) e9_0) (by omega) (by decide) dX4_grant_81 (fun H locs hP hS => ?_)
            refine lv_iload hx hb dX4_grant_82 (lv_at hl 0 rfl) ?_
            refine lv_iload hx hb dX4_grant_84 (lv_at hl 5 rfl) ?_
            refine lv_icmp_eq (tgt := 93) hx hb dX4_grant_86 (by decide) (fun c86 => ?_) (fun c86 => ?_)
            · refine lv_iconst (v := 0) hx hb dX4_grant_93 (by decide) ?_
              exact gM_zret C hr narrow_b0 hP hS (by decide) (by decide) dX4_grant_94 (Or.inl (⟨h2_0, h9_0, h17_0, h28_0, n36, c86, rfl, rfl, rfl⟩))
            · refine lv_iconst (v := 1) hx hb dX4_grant_89 (by decide) ?_
              refine lv_goto (tgt := 94) hx hb dX4_grant_90 (by decide) ?_
              exact gM_zret C hr narrow_b1 hP hS (by decide) (by decide) dX4_grant_94 (Or.inr (Or.inl (⟨h2_0, h9_0, h17_0, h28_0, n36, c86, rfl, rfl, rfl⟩)))
          · have n36 : x1.toNatClampNeg = x2.toNatClampNeg := (nI_eqqE e2_0 e9_0 (by omega) (by omega)).mp c36
            refine lv_iconst (v := 2) hx hb dX4_grant_39 (by decide) ?_
            refine lv_goto (tgt := 44) hx hb dX4_grant_40 (by decide) ?_
            refine g_putI (T := TX4) C hP hS 136 0 (by decide) rfl rfl inwX4 tyX4 tyX4_ok nmX4 (by decide) kf_X4_65 rfl rfl (by decide : 0 < 20) (by simp only [sI, va_up_self]; rfl) dX4_grant_44 (fun H locs hP hS => ?_)
            refine lv_aload_n hx hb dX4_grant_47 rfl (lv_at hl 0 rfl) ?_
            refine g_get (v := .int 2) (T := TX4) C hP 136 0 (by decide) rfl rfl inwX4 (by decide) kf_X4_65 (congrArg (fun z => some (Value.int z)) sI_eq) dX4_grant_48 ?_
            refine lv_if_le (tgt := 56) hx hb dX4_grant_51 (by decide) (fun c => absurd c (by decide)) (fun _ => ?_)
            refine lv_iconst (v := 0) hx hb dX4_grant_54 (by decide) ?_
            exact gM_zret C hr narrow_b0 hP hS (by decide) (by decide) dX4_grant_55 (Or.inr (Or.inr (Or.inl (⟨h2_0, h9_0, h17_0, h28_0, n36, rfl, rfl, rfl⟩))))
        · refine lv_if_eq (tgt := 39) hx hb dX4_grant_31 (by decide) (fun _ => ?_) (fun c => absurd c (by decide))
          refine lv_iconst (v := 2) hx hb dX4_grant_39 (by decide) ?_
          refine lv_goto (tgt := 44) hx hb dX4_grant_40 (by decide) ?_
          refine g_putI (T := TX4) C hP hS 136 0 (by decide) rfl rfl inwX4 tyX4 tyX4_ok nmX4 (by decide) kf_X4_65 rfl rfl (by decide : 0 < 20) (by simp only [sI, va_up_self]; rfl) dX4_grant_44 (fun H locs hP hS => ?_)
          refine lv_aload_n hx hb dX4_grant_47 rfl (lv_at hl 0 rfl) ?_
          refine g_get (v := .int 2) (T := TX4) C hP 136 0 (by decide) rfl rfl inwX4 (by decide) kf_X4_65 (congrArg (fun z => some (Value.int z)) sI_eq) dX4_grant_48 ?_
          refine lv_if_le (tgt := 56) hx hb dX4_grant_51 (by decide) (fun c => absurd c (by decide)) (fun _ => ?_)
          refine lv_iconst (v := 0) hx hb dX4_grant_54 (by decide) ?_
          exact gM_zret C hr narrow_b0 hP hS (by decide) (by decide) dX4_grant_55 (Or.inr (Or.inr (Or.inr (Or.inl (⟨h2_0, h9_0, h17_0, h28_0, rfl, rfl, rfl⟩)))))
      · refine lv_if_ne (tgt := 27) hx hb dX4_grant_20 (by decide) (fun c => absurd c (by decide)) (fun _ => ?_)
        refine lv_iconst (v := 1) hx hb dX4_grant_23 (by decide) ?_
        refine lv_goto (tgt := 44) hx hb dX4_grant_24 (by decide) ?_
        refine g_putI (T := TX4) C hP hS 136 0 (by decide) rfl rfl inwX4 tyX4 tyX4_ok nmX4 (by decide) kf_X4_65 rfl rfl (by decide : 0 < 20) (by simp only [sI, va_up_self]; rfl) dX4_grant_44 (fun H locs hP hS => ?_)
        refine lv_aload_n hx hb dX4_grant_47 rfl (lv_at hl 0 rfl) ?_
        refine g_get (v := .int 1) (T := TX4) C hP 136 0 (by decide) rfl rfl inwX4 (by decide) kf_X4_65 (congrArg (fun z => some (Value.int z)) sI_eq) dX4_grant_48 ?_
        refine lv_if_le (tgt := 56) hx hb dX4_grant_51 (by decide) (fun c => absurd c (by decide)) (fun _ => ?_)
        refine lv_iconst (v := 0) hx hb dX4_grant_54 (by decide) ?_
        exact gM_zret C hr narrow_b0 hP hS (by decide) (by decide) dX4_grant_55 (Or.inr (Or.inr (Or.inr (Or.inr (Or.inl (⟨h2_0, h9_0, h17_0, rfl, rfl, rfl⟩))))))
    · refine lv_if_eq (tgt := 23) hx hb dX4_grant_12 (by decide) (fun _ => ?_) (fun c => absurd c (by decide))
      refine lv_iconst (v := 1) hx hb dX4_grant_23 (by decide) ?_
      refine lv_goto (tgt := 44) hx hb dX4_grant_24 (by decide) ?_
      refine g_putI (T := TX4) C hP hS 136 0 (by decide) rfl rfl inwX4 tyX4 tyX4_ok nmX4 (by decide) kf_X4_65 rfl rfl (by decide : 0 < 20) (by simp only [sI, va_up_self]; rfl) dX4_grant_44 (fun H locs hP hS => ?_)
      refine lv_aload_n hx hb dX4_grant_47 rfl (lv_at hl 0 rfl) ?_
      refine g_get (v := .int 1) (T := TX4) C hP 136 0 (by decide) rfl rfl inwX4 (by decide) kf_X4_65 (congrArg (fun z => some (Value.int z)) sI_eq) dX4_grant_48 ?_
      refine lv_if_le (tgt := 56) hx hb dX4_grant_51 (by decide) (fun c => absurd c (by decide)) (fun _ => ?_)
      refine lv_iconst (v := 0) hx hb dX4_grant_54 (by decide) ?_
      exact gM_zret C hr narrow_b0 hP hS (by decide) (by decide) dX4_grant_55 (Or.inr (Or.inr (Or.inr (Or.inr (Or.inr (Or.inl (⟨h2_0, h9_0, rfl, rfl, rfl⟩)))))))
  · refine lv_if_eq (tgt := 23) hx hb dX4_grant_5 (by decide) (fun _ => ?_) (fun c => absurd c (by decide))
    refine lv_iconst (v := 1) hx hb dX4_grant_23 (by decide) ?_
    refine lv_goto (tgt := 44) hx hb dX4_grant_24 (by decide) ?_
    refine g_putI (T := TX4) C hP hS 136 0 (by decide) rfl rfl inwX4 tyX4 tyX4_ok nmX4 (by decide) kf_X4_65 rfl rfl (by decide : 0 < 20) (by simp only [sI, va_up_self]; rfl) dX4_grant_44 (fun H locs hP hS => ?_)
    refine lv_aload_n hx hb dX4_grant_47 rfl (lv_at hl 0 rfl) ?_
    refine g_get (v := .int 1) (T := TX4) C hP 136 0 (by decide) rfl rfl inwX4 (by decide) kf_X4_65 (congrArg (fun z => some (Value.int z)) sI_eq) dX4_grant_48 ?_
    refine lv_if_le (tgt := 56) hx hb dX4_grant_51 (by decide) (fun c => absurd c (by decide)) (fun _ => ?_)
    refine lv_iconst (v := 0) hx hb dX4_grant_54 (by decide) ?_
    exact gM_zret C hr narrow_b0 hP hS (by decide) (by decide) dX4_grant_55 (Or.inr (Or.inr (Or.inr (Or.inr (Or.inr (Or.inr (⟨h2_0, rfl, rfl, rfl⟩)))))))
def pq_X4_floor (x1 : Int32) (x2 : Int32) (x3 : Int64) (I : MI) (L : ML) : Int64 → MI → ML → Prop := fun r I' L' => (vp_in x1 8 ∧ vp_in x2 8 ∧ (x1 = 0 ∨ x1 = 1) ∧ x3 < (-1000000000000) ∧ (0 : Int64) = r ∧ (sI I 136 0 3) = I' ∧ L = L') ∨ (vp_in x1 8 ∧ vp_in x2 8 ∧ (x1 = 0 ∨ x1 = 1) ∧ ¬ x3 < (-1000000000000) ∧ x3 ≤ 1000000000000 ∧ L 138 x2.toNatClampNeg = r ∧ (sI I 136 0 0) = I' ∧ (sL L 138 x2.toNatClampNeg x3) = L') ∨ (vp_in x1 8 ∧ vp_in x2 8 ∧ (x1 = 0 ∨ x1 = 1) ∧ ¬ x3 < (-1000000000000) ∧ ¬ x3 ≤ 1000000000000 ∧ (0 : Int64) = r ∧ (sI I 136 0 3) = I' ∧ L = L') ∨ (vp_in x1 8 ∧ vp_in x2 8 ∧ (¬ (x1 = 0 ∨ x1 = 1)) ∧ (0 : Int64) = r ∧ (sI I 136 0 2) = I' ∧ L = L') ∨ (vp_in x1 8 ∧ ¬ vp_in x2 8 ∧ (0 : Int64) = r ∧ (sI I 136 0 1) = I' ∧ L = L') ∨ (¬ vp_in x1 8 ∧ (0 : Int64) = r ∧ (sI I 136 0 1) = I' ∧ L = L')
set_option maxRecDepth 100000 in
set_option maxHeartbeats 4000000 in
theorem ct_X4_floor (l : Launch) (D : va_G) (cy : Nat → ClassId) (ad : Nat → Nat) (hJ : gJ ad) (x1 : Int32) (x2 : Int32) (x3 : Int64) (I : MI) (L : ML) : gMl l D cy ad yX4_floor cX4_floor 7 .long (gR 1 0 0) [.ref (ad 136), .int x1, .int x2, .long x3] I L (pq_X4_floor x1 x2 x3 I L) := by
  refine gMl_of hJ (by decide +kernel) kc_X4_floor (Nat.le_of_ble_eq_true rfl) (fun p e s m below meth c A ls C hr hP hS hl => ?_)
  have hx := C.hx
  have hb := C.hb
  have hl : lv_has ls 7 [(0, .ref (ad 136)), (1, .int x1), (2, .int x2), (3, .long x3)] := hl
  refine lv_aload_n hx hb dX4_floor_0 rfl (lv_at hl 0 rfl) ?_
  refine lv_iload_n hx hb dX4_floor_1 rfl (lv_at hl 1 rfl) ?_
  refine gM_callSi (As := [.int x1]) (rest := [.ref (ad 136)]) C hP hS hl.1 (ct_X4_isOne l D cy ad hJ x1 I L) fa_X4_isOne kl_X4_72 kst_X4_isOne rfl (by decide) (Nat.le_of_ble_eq_true rfl) (by decide) dX4_floor_2 rfl (fun r2 I2 L2 H locs hq hP hS => ?_)
  rcases hq with ⟨h2_0, rfl, rfl, rfl⟩ | ⟨h2_0, rfl, rfl, rfl⟩
  · obtain ⟨e2_0, l2_0⟩ := vp_ix h2_0
    refine lv_if_eq (tgt := 15) hx hb dX4_floor_5 (by decide) (fun c => absurd c (by decide)) (fun _ => ?_)
    refine lv_iload_n hx hb dX4_floor_8 rfl (lv_at hl 2 rfl) ?_
    refine gM_callSi (As := [.int x2]) (rest := [.ref (ad 136)]) C hP hS hl.1 (ct_X4_isOne l D cy ad hJ x2 I L) fa_X4_isOne kl_X4_72 kst_X4_isOne rfl (by decide) (Nat.le_of_ble_eq_true rfl) (by decide) dX4_floor_9 rfl (fun r9 I9 L9 H locs hq hP hS => ?_)
    rcases hq with ⟨h9_0, rfl, rfl, rfl⟩ | ⟨h9_0, rfl, rfl, rfl⟩
    · obtain ⟨e9_0, l9_0⟩ := vp_ix h9_0
      refine lv_if_ne (tgt := 19) hx hb dX4_floor_12 (by decide) (fun _ => ?_) (fun c => absurd c (by decide))
      refine lv_iload_n hx hb dX4_floor_19 rfl (lv_at hl 1 rfl) ?_
      refine gM_callSi (As := [.int x1]) (rest := [.ref (ad 136)]) C hP hS hl.1 (ct_X4_isOfficer l D cy ad hJ x1 I L) fa_X4_isOfficer kl_X4_86 kst_X4_isOfficer rfl (by decide) (Nat.le_of_ble_eq_true rfl) (by decide) dX4_floor_20 rfl (fun r20 I20 L20 H locs hq hP hS => ?_)
      rcases hq with ⟨h20_0, rfl, rfl, rfl⟩ | ⟨h20_0, rfl, rfl, rfl⟩
      · refine lv_if_ne (tgt := 30) hx hb dX4_floor_23 (by decide) (fun _ => ?_) (fun c => absurd c (by decide))
        refine lv_lload_n hx hb dX4_floor_30 rfl (lv_at hl 3 rfl) ?_
        refine lv_ldc2 (v := (-1000000000000)) hx hb C.hown (C.hts _ kcn_X4_63) dX4_floor_31 ?_
        refine W.lcmp hx hb dX4_floor_34 ?_
        refine lv_if_lt (tgt := 46) hx hb dX4_floor_35 (by decide) (fun c35 => ?_) (fun c35 => ?_)
        · have n35 : x3 < (-1000000000000) := (lg_cmp_lt _ _).mp c35
          refine lv_iconst (v := 3) hx hb dX4_floor_46 (by decide) ?_
          refine lv_goto (tgt := 51) hx hb dX4_floor_47 (by decide) ?_
          refine g_putI (T := TX4) C hP hS 136 0 (by decide) rfl rfl inwX4 tyX4 tyX4_ok nmX4 (by decide) kf_X4_65 rfl rfl (by decide : 0 < 20) (by simp only [sI, va_up_self]; rfl) dX4_floor_51 (fun H locs hP hS => ?_)
          refine lv_aload_n hx hb dX4_floor_54 rfl (lv_at hl 0 rfl) ?_
          refine g_get (v := .int 3) (T := TX4) C hP 136 0 (by decide) rfl rfl inwX4 (by decide) kf_X4_65 (congrArg (fun z => some (Value.int z)) sI_eq) dX4_floor_55 ?_
          refine lv_if_le (tgt := 63) hx hb dX4_floor_58 (by decide) (fun c => absurd c (by decide)) (fun _ => ?_)
          refine lv_lconst (v := 0) hx hb dX4_floor_61 (by decide) ?_
          exact gM_lret C hr hP hS (by decide) (by decide) dX4_floor_62 (Or.inl (⟨h2_0, h9_0, h20_0, n35, rfl, rfl, rfl⟩))
        · have n35 : ¬ x3 < (-1000000000000) := (not_congr (lg_cmp_lt _ _)).mp c35
          refine lv_lload_n hx hb dX4_floor_38 rfl (lv_at hl 3 rfl) ?_
          refine lv_ldc2 (v := 1000000000000) hx hb C.hown (C.hts _ kcn_X4_96) dX4_floor_39 ?_
          refine W.lcmp hx hb dX4_floor_42 ?_
          refine lv_if_le (tgt := 50) hx hb dX4_floor_43 (by decide) (fun c43 => ?_) (fun c43 => ?_)
          · have n43 : x3 ≤ 1000000000000 := (lg_cmp_le _ _).mp c43
            refine lv_iconst (v := 0) hx hb dX4_floor_50 (by decide) ?_
            refine g_putI (T := TX4) C hP hS 136 0 (by decide) rfl rfl inwX4 tyX4 tyX4_ok nmX4 (by decide) kf_X4_65 rfl rfl (by decide : 0 < 20) (by simp only [sI, va_up_self]; rfl) dX4_floor_51 (fun H locs hP hS => ?_)
            refine lv_aload_n hx hb dX4_floor_54 rfl (lv_at hl 0 rfl) ?_
            refine g_get (v := .int 0) (T := TX4) C hP 136 0 (by decide) rfl rfl inwX4 (by decide) kf_X4_65 (congrArg (fun z => some (Value.int z)) sI_eq) dX4_floor_55 ?_
            refine lv_if_le (tgt := 63) hx hb dX4_floor_58 (by decide) (fun _ => ?_) (fun c => absurd c (by decide))
            refine lv_aload_n hx hb dX4_floor_63 rfl (lv_at hl 0 rfl) ?_
            refine g_get (v := .ref (ad 138)) (T := TX4) C hP 136 2 (by decide) rfl rfl inwX4 (by decide) kf_X4_13 rfl dX4_floor_64 ?_
            refine lv_iload_n hx hb dX4_floor_67 rfl (lv_at hl 2 rfl) ?_
            refine g_lald (v := L 138 x2.toNatClampNeg) C hP 138 8 (by decide) (fun _ _ => rfl) x2.toNatClampNeg e9_0 rfl (by omega) (by decide) dX4_floor_68 ?_
            refine lv_lstore (lv' := [(5, .long (L 138 x2.toNatClampNeg)), (0, .ref (ad 136)), (1, .int x1), (2, .int x2), (3, .long x3)]) hx hb dX4_floor_69 hl (by decide) rfl (fun ls hl => ?_)
            refine lv_aload_n hx hb dX4_floor_71 rfl (lv_at hl 1 rfl) ?_
            refine g_get (v := .ref (ad 138)) (T := TX4) C hP 136 2 (by decide) rfl rfl inwX4 (by decide) kf_X4_13 rfl dX4_floor_72 ?_
            refine lv_iload_n hx hb dX4_floor_75 rfl (lv_at hl 3 rfl) ?_
            refine lv_lload_n hx hb dX4_floor_76 rfl (lv_at hl 4 rfl) ?_
            refine g_last C hP hS 138 8 (by decide) (fun _ _ => rfl) x2.toNatClampNeg e9_0 (by omega) (by decide) dX4_floor_77 (fun H locs hP hS => ?_)
            refine lv_lload hx hb dX4_floor_78 (lv_at hl 0 rfl) ?_
            exact gM_lret C hr hP hS (by decide) (by decide) dX4_floor_80 (Or.inr (Or.inl (⟨h2_0, h9_0, h20_0, n35, n43, rfl, rfl, rfl⟩)))
          · have n43 : ¬ x3 ≤ 1000000000000 := (not_congr (lg_cmp_le _ _)).mp c43
            refine lv_iconst (v := 3) hx hb dX4_floor_46 (by decide) ?_
            refine lv_goto (tgt := 51) hx hb dX4_floor_47 (by decide) ?_
            refine g_putI (T := TX4) C hP hS 136 0 (by decide) rfl rfl inwX4 tyX4 tyX4_ok nmX4 (by decide) kf_X4_65 rfl rfl (by decide : 0 < 20) (by simp only [sI, va_up_self]; rfl) dX4_floor_51 (fun H locs hP hS => ?_)
            refine lv_aload_n hx hb dX4_floor_54 rfl (lv_at hl 0 rfl) ?_
            refine g_get (v := .int 3) (T := TX4) C hP 136 0 (by decide) rfl rfl inwX4 (by decide) kf_X4_65 (congrArg (fun z => some (Value.int z)) sI_eq) dX4_floor_55 ?_
            refine lv_if_le (tgt := 63) hx hb dX4_floor_58 (by decide) (fun c => absurd c (by decide)) (fun _ => ?_)
            refine lv_lconst (v := 0) hx hb dX4_floor_61 (by decide) ?_
            exact gM_lret C hr hP hS (by decide) (by decide) dX4_floor_62 (Or.inr (Or.inr (Or.inl (⟨h2_0, h9_0, h20_0, n35, n43, rfl, rfl, rfl⟩))))
      · refine lv_if_ne (tgt := 30) hx hb dX4_floor_23 (by decide) (fun c => absurd c (by decide)) (fun _ => ?_)
        refine lv_iconst (v := 2) hx hb dX4_floor_26 (by decide) ?_
        refine lv_goto (tgt := 51) hx hb dX4_floor_27 (by decide) ?_
        refine g_putI (T := TX4) C hP hS 136 0 (by decide) rfl rfl inwX4 tyX4 tyX4_ok nmX4 (by decide) kf_X4_65 rfl rfl (by decide : 0 < 20) (by simp only [sI, va_up_self]; rfl) dX4_floor_51 (fun H locs hP hS => ?_)
        refine lv_aload_n hx hb dX4_floor_54 rfl (lv_at hl 0 rfl) ?_
        refine g_get (v := .int 2) (T := TX4) C hP 136 0 (by decide) rfl rfl inwX4 (by decide) kf_X4_65 (congrArg (fun z => some (Value.int z)) sI_eq) dX4_floor_55 ?_
        refine lv_if_le (tgt := 63) hx hb dX4_floor_58 (by decide) (fun c => absurd c (by decide)) (fun _ => ?_)
        refine lv_lconst (v := 0) hx hb dX4_floor_61 (by decide) ?_
        exact gM_lret C hr hP hS (by decide) (by decide) dX4_floor_62 (Or.inr (Or.inr (Or.inr (Or.inl (⟨h2_0, h9_0, h20_0, rfl, rfl, rfl⟩)))))
    · refine lv_if_ne (tgt := 19) hx hb dX4_floor_12 (by decide) (fun c => absurd c (by decide)) (fun _ => ?_)
      refine lv_iconst (v := 1) hx hb dX4_floor_15 (by decide) ?_
      refine lv_goto (tgt := 51) hx hb dX4_floor_16 (by decide) ?_
      refine g_putI (T := TX4) C hP hS 136 0 (by decide) rfl rfl inwX4 tyX4 tyX4_ok nmX4 (by decide) kf_X4_65 rfl rfl (by decide : 0 < 20) (by simp only [sI, va_up_self]; rfl) dX4_floor_51 (fun H locs hP hS => ?_)
      refine lv_aload_n hx hb dX4_floor_54 rfl (lv_at hl 0 rfl) ?_
      refine g_get (v := .int 1) (T := TX4) C hP 136 0 (by decide) rfl rfl inwX4 (by decide) kf_X4_65 (congrArg (fun z => some (Value.int z)) sI_eq) dX4_floor_55 ?_
      refine lv_if_le (tgt := 63) hx hb dX4_floor_58 (by decide) (fun c => absurd c (by decide)) (fun _ => ?_)
      refine lv_lconst (v := 0) hx hb dX4_floor_61 (by decide) ?_
      exact gM_lret C hr hP hS (by decide) (by decide) dX4_floor_62 (Or.inr (Or.inr (Or.inr (Or.inr (Or.inl (⟨h2_0, h9_0, rfl, rfl, rfl⟩))))))
  · refine lv_if_eq (tgt := 15) hx hb dX4_floor_5 (by decide) (fun _ => ?_) (fun c => absurd c (by decide))
    refine lv_iconst (v := 1) hx hb dX4_floor_15 (by decide) ?_
    refine lv_goto (tgt := 51) hx hb dX4_floor_16 (by decide) ?_
    refine g_putI (T := TX4) C hP hS 136 0 (by decide) rfl rfl inwX4 tyX4 tyX4_ok nmX4 (by decide) kf_X4_65 rfl rfl (by decide : 0 < 20) (by simp only [sI, va_up_self]; rfl) dX4_floor_51 (fun H locs hP hS => ?_)
    refine lv_aload_n hx hb dX4_floor_54 rfl (lv_at hl 0 rfl) ?_
    refine g_get (v := .int 1) (T := TX4) C hP 136 0 (by decide) rfl rfl inwX4 (by decide) kf_X4_65 (congrArg (fun z => some (Value.int z)) sI_eq) dX4_floor_55 ?_
    refine lv_if_le (tgt := 63) hx hb dX4_floor_58 (by decide) (fun c => absurd c (by decide)) (fun _ => ?_)
    refine lv_lconst (v := 0) hx hb dX4_floor_61 (by decide) ?_
    exact gM_lret C hr hP hS (by decide) (by decide) dX4_floor_62 (Or.inr (Or.inr (Or.inr (Or.inr (Or.inr (⟨h2_0, rfl, rfl, rfl⟩))))))
def pq_X4_mayRun (np : Nat) (x1 : Int32) (x2 : Int32) (I : MI) (L : ML) : Int32 → MI → ML → Prop := fun r I' L' => (vp_in x1 8 ∧ vp_in x2 np ∧ gMM (sI I 136 0 0) x1 x1.toNatClampNeg x2.toNatClampNeg ∧ (1 : Int32) = r ∧ (sI I 136 0 0) = I' ∧ L = L') ∨ (vp_in x1 8 ∧ vp_in x2 np ∧ ¬ gMM (sI I 136 0 0) x1 x1.toNatClampNeg x2.toNatClampNeg ∧ (0 : Int32) = r ∧ (sI I 136 0 0) = I' ∧ L = L') ∨ (vp_in x1 8 ∧ ¬ vp_in x2 np ∧ (0 : Int32) = r ∧ (sI I 136 0 0) = I' ∧ L = L') ∨ (¬ vp_in x1 8 ∧ (0 : Int32) = r ∧ (sI I 136 0 0) = I' ∧ L = L')
set_option maxRecDepth 100000 in
set_option maxHeartbeats 4000000 in
theorem ct_X4_mayRun (l : Launch) (D : va_G) (cy : Nat → ClassId) (ad : Nat → Nat) (hJ : gJ ad) (np : Nat) (x1 : Int32) (x2 : Int32) (I : MI) (L : ML) (hmp : I 136 3 = nI np) (hmp10 : np ≤ 10) : gMi l D cy ad yX4_mayRun cX4_mayRun 3 .boolean (gR 1 0 0) [.ref (ad 136), .int x1, .int x2] I L (pq_X4_mayRun np x1 x2 I L) := by
  refine gMi_of hJ (by decide +kernel) kc_X4_mayRun (Nat.le_of_ble_eq_true rfl) (fun p e s m below meth c A ls C hr hP hS hl => ?_)
  have hx := C.hx
  have hb := C.hb
  have hl : lv_has ls 3 [(0, .ref (ad 136)), (1, .int x1), (2, .int x2)] := hl
  refine lv_aload_n hx hb dX4_mayRun_0 rfl (lv_at hl 0 rfl) ?_
  refine lv_iconst (v := 0) hx hb dX4_mayRun_1 (by decide) ?_
  refine g_putI (T := TX4) C hP hS 136 0 (by decide) rfl rfl inwX4 tyX4 tyX4_ok nmX4 (by decide) kf_X4_65 rfl rfl (by decide : 0 < 20) (by simp only [sI, va_up_self]; rfl) dX4_mayRun_2 (fun H locs hP hS => ?_)
  refine lv_iload_n hx hb dX4_mayRun_5 rfl (lv_at hl 1 rfl) ?_
  refine gM_callSi (As := [.int x1]) (rest := []) C hP hS hl.1 (ct_X4_isOne l D cy ad hJ x1 (sI I 136 0 0) L) fa_X4_isOne kl_X4_72 kst_X4_isOne rfl (by decide) (Nat.le_of_ble_eq_true rfl) (by decide) dX4_mayRun_6 rfl (fun r6 I6 L6 H locs hq hP hS => ?_)
  rcases hq with ⟨h6_0, rfl, rfl, rfl⟩ | ⟨h6_0, rfl, rfl, rfl⟩
  · obtain ⟨e6_0, l6_0⟩ := vp_ix h6_0
    refine lv_if_eq (tgt := 33) hx hb dX4_mayRun_9 (by decide) (fun c => absurd c (by decide)) (fun _ => ?_)
    refine lv_aload_n hx hb dX4_mayRun_12 rfl (lv_at hl 0 rfl) ?_
    refine lv_iload_n hx hb dX4_mayRun_13 rfl (lv_at hl 2 rfl) ?_
    refine gM_callVi (As := [.int x2]) (rest := []) C hP hS hl.1 (ct_X4_isProcedure l D cy ad hJ np x2 (sI I 136 0 0) L hmp hmp10) fa_X4_isProcedure kl_X4_79 ki_X4_isProcedure kse_X4_isProcedure (by decide) (T := TX4) rfl rfl rfl (by decide) (Nat.le_of_ble_eq_true rfl) (by decide) dX4_mayRun_14 rfl (fun r14 I14 L14 H locs hq hP hS => ?_)
    rcases hq with ⟨h14_0, rfl, rfl, rfl⟩ | ⟨h14_0, rfl, rfl, rfl⟩
    · obtain ⟨e14_0, l14_0⟩ := vp_ix h14_0
      refine lv_if_eq (tgt := 33) hx hb dX4_mayRun_17 (by decide) (fun c => absurd c (by decide)) (fun _ => ?_)
      refine lv_aload_n hx hb dX4_mayRun_20 rfl (lv_at hl 0 rfl) ?_
      refine lv_iload_n hx hb dX4_mayRun_21 rfl (lv_at hl 1 rfl) ?_
      refine lv_iload_n hx hb dX4_mayRun_22 rfl (lv_at hl 2 rfl) ?_
      refine gM_callVi (As := [.int x1, .int x2]) (rest := []) C hP hS hl.1 (ct_X4_may l D cy ad hJ x1.toNatClampNeg x2.toNatClampNeg x1 x2 (sI I 136 0 0) L e6_0 (by omega) e14_0 (by omega)) fa_X4_may kl_X4_93 ki_X4_may kse_X4_may (by decide) (T := TX4) rfl rfl rfl (by decide) (Nat.le_of_ble_eq_true rfl) (by decide) dX4_mayRun_23 rfl (fun r23 I23 L23 H locs hq hP hS => ?_)
      rcases hq with ⟨h23_0, rfl, rfl, rfl⟩ | ⟨h23_0, rfl, rfl, rfl⟩
      · refine lv_if_eq (tgt := 33) hx hb dX4_mayRun_26 (by decide) (fun c => absurd c (by decide)) (fun _ => ?_)
        refine lv_iconst (v := 1) hx hb dX4_mayRun_29 (by decide) ?_
        refine lv_goto (tgt := 34) hx hb dX4_mayRun_30 (by decide) ?_
        exact gM_zret C hr narrow_b1 hP hS (by decide) (by decide) dX4_mayRun_34 (Or.inl (⟨h6_0, h14_0, h23_0, rfl, rfl, rfl⟩))
      · refine lv_if_eq (tgt := 33) hx hb dX4_mayRun_26 (by decide) (fun _ => ?_) (fun c => absurd c (by decide))
        refine lv_iconst (v := 0) hx hb dX4_mayRun_33 (by decide) ?_
        exact gM_zret C hr narrow_b0 hP hS (by decide) (by decide) dX4_mayRun_34 (Or.inr (Or.inl (⟨h6_0, h14_0, h23_0, rfl, rfl, rfl⟩)))
    · refine lv_if_eq (tgt := 33) hx hb dX4_mayRun_17 (by decide) (fun _ => ?_) (fun c => absurd c (by decide))
      refine lv_iconst (v := 0) hx hb dX4_mayRun_33 (by decide) ?_
      exact gM_zret C hr narrow_b0 hP hS (by decide) (by decide) dX4_mayRun_34 (Or.inr (Or.inr (Or.inl (⟨h6_0, h14_0, rfl, rfl, rfl⟩))))
  · refine lv_if_eq (tgt := 33) hx hb dX4_mayRun_9 (by decide) (fun _ => ?_) (fun c => absurd c (by decide))
    refine lv_iconst (v := 0) hx hb dX4_mayRun_33 (by decide) ?_
    exact gM_zret C hr narrow_b0 hP hS (by decide) (by decide) dX4_mayRun_34 (Or.inr (Or.inr (Or.inr (⟨h6_0, rfl, rfl, rfl⟩))))
def pq_X4_ask (np : Nat) (ne : Nat) (lc : Nat → Nat) (x1 : Int32) (x2 : Int32) (x3 : Int64) (I : MI) (L : ML) : Int32 → MI → ML → Prop := fun r I' L' => (vp_in x1 8 ∧ vp_in x2 np ∧ gMM I x1 x1.toNatClampNeg x2.toNatClampNeg ∧ x3 < 1 ∧ (0 : Int32) = r ∧ (sI I 136 0 3) = I' ∧ L = L') ∨ (vp_in x1 8 ∧ vp_in x2 np ∧ gMM I x1 x1.toNatClampNeg x2.toNatClampNeg ∧ ¬ x3 < 1 ∧ x3 ≤ 100000000000 ∧ x3 ≤ 10000 ∧ (gz (L 137) (glf (sI I 136 0 0) lc (L 145) ne) 8) = 0 ∧ (0 : Int32) = r ∧ (sI (sI I 136 0 0) 136 0 4) = I' ∧ (gSS (sI I 136 0 0) lc L ne 8) = L') ∨ (vp_in x1 8 ∧ vp_in x2 np ∧ gMM I x1 x1.toNatClampNeg x2.toNatClampNeg ∧ ¬ x3 < 1 ∧ x3 ≤ 100000000000 ∧ x3 ≤ 10000 ∧ ¬ (gz (L 137) (glf (sI I 136 0 0) lc (L 145) ne) 8) = 0 ∧ ne = 40 ∧ (0 : Int32) = r ∧ (sI (sI I 136 0 0) 136 0 4) = I' ∧ (gSS (sI I 136 0 0) lc L ne 8) = L') ∨ (vp_in x1 8 ∧ vp_in x2 np ∧ gMM I x1 x1.toNatClampNeg x2.toNatClampNeg ∧ ¬ x3 < 1 ∧ x3 ≤ 100000000000 ∧ x3 ≤ 10000 ∧ ¬ (gz (L 137) (glf (sI I 136 0 0) lc (L 145) ne) 8) = 0 ∧ ¬ ne = 40 ∧ (-1 : Int32) < 0 ∧ (∀ k, k < (lc x2.toNatClampNeg) → ¬ gfl (gmA (sI I 136 0 0) x2.toNatClampNeg) ((gSS (sI I 136 0 0) lc L ne 8) 137) ((gSS (sI I 136 0 0) lc L ne 8) 138) (fun k => 1 * gpw x3 (gmS (sI I 136 0 0) x2.toNatClampNeg) (lc x2.toNatClampNeg) ((gSS (sI I 136 0 0) lc L ne 8) 153) k) k) ∧ (-1 : Int32) < 0 ∧ 0 ≤ ne ∧ 0 ≤ ne ∧ nI ne = r ∧ (sI (sI (sI (sI (sI (sI (sI (sI I 136 0 0) 144 ne x2) 146 ne x1) 147 ne (-1 : Int32)) 148 ne (-1 : Int32)) 149 ne (-1)) 136 9 ((nI ne) + 1)) 136 0 0) = I' ∧ (sL (gRM (va_up (gSS (sI I 136 0 0) lc L ne 8) 153 (gpw x3 (gmS (sI I 136 0 0) x2.toNatClampNeg) (lc x2.toNatClampNeg) ((gSS (sI I 136 0 0) lc L ne 8) 153))) (gmA (sI I 136 0 0) x2.toNatClampNeg) (fun k => 1 * gpw x3 (gmS (sI I 136 0 0) x2.toNatClampNeg) (lc x2.toNatClampNeg) ((gSS (sI I 136 0 0) lc L ne 8) 153) k) (lc x2.toNatClampNeg)) 145 ne x3) = L') ∨ (vp_in x1 8 ∧ vp_in x2 np ∧ gMM I x1 x1.toNatClampNeg x2.toNatClampNeg ∧ ¬ x3 < 1 ∧ x3 ≤ 100000000000 ∧ x3 ≤ 10000 ∧ ¬ (gz (L 137) (glf (sI I 136 0 0) lc (L 145) ne) 8) = 0 ∧ ¬ ne = 40 ∧ (-1 : Int32) < 0 ∧ (¬ (∀ k, k < (lc x2.toNatClampNeg) → ¬ gfl (gmA (sI I 136 0 0) x2.toNatClampNeg) ((gSS (sI I 136 0 0) lc L ne 8) 137) ((gSS (sI I 136 0 0) lc L ne 8) 138) (fun k => 1 * gpw x3 (gmS (sI I 136 0 0) x2.toNatClampNeg) (lc x2.toNatClampNeg) ((gSS (sI I 136 0 0) lc L ne 8) 153) k) k)) ∧ (0 : Int32) = r ∧ (sI (sI I 136 0 0) 136 0 4) = I' ∧ (va_up (gSS (sI I 136 0 0) lc L ne 8) 153 (gpw x3 (gmS (sI I 136 0 0) x2.toNatClampNeg) (lc x2.toNatClampNeg) ((gSS (sI I 136 0 0) lc L ne 8) 153))) = L') ∨ (vp_in x1 8 ∧ vp_in x2 np ∧ gMM I x1 x1.toNatClampNeg x2.toNatClampNeg ∧ ¬ x3 < 1 ∧ x3 ≤ 100000000000 ∧ ¬ x3 ≤ 10000 ∧ gfw ((sI I 136 0 0) 150) < 6 ∧ ¬ (gfw ((sI I 136 0 0) 150)) < 0 ∧ (gz (L 137) (glf (sI I 136 0 0) lc (L 145) ne) 8) = 0 ∧ (0 : Int32) = r ∧ (sI (sI I 136 0 0) 136 0 4) = I' ∧ (gSS (sI I 136 0 0) lc L ne 8) = L') ∨ (vp_in x1 8 ∧ vp_in x2 np ∧ gMM I x1 x1.toNatClampNeg x2.toNatClampNeg ∧ ¬ x3 < 1 ∧ x3 ≤ 100000000000 ∧ ¬ x3 ≤ 10000 ∧ gfw ((sI I 136 0 0) 150) < 6 ∧ ¬ (gfw ((sI I 136 0 0) 150)) < 0 ∧ ¬ (gz (L 137) (glf (sI I 136 0 0) lc (L 145) ne) 8) = 0 ∧ ¬ ne = 40 ∧ 0 ≤ (100 + (nI (gfw ((sI I 136 0 0) 150)))) ∧ 0 ≤ (100 + (nI (gfw ((sI I 136 0 0) 150)))) ∧ 100 + (nI (gfw ((sI I 136 0 0) 150))) = r ∧ (sI (sI (sI (sI I 136 0 0) 150 (gfw ((sI I 136 0 0) 150)) x1) 151 (gfw ((sI I 136 0 0) 150)) x2) 136 0 0) = I' ∧ (sL (gSS (sI I 136 0 0) lc L ne 8) 152 (gfw ((sI I 136 0 0) 150)) x3) = L') ∨ (vp_in x1 8 ∧ vp_in x2 np ∧ gMM I x1 x1.toNatClampNeg x2.toNatClampNeg ∧ ¬ x3 < 1 ∧ x3 ≤ 100000000000 ∧ ¬ x3 ≤ 10000 ∧ gfw ((sI I 136 0 0) 150) < 6 ∧ ¬ (gfw ((sI I 136 0 0) 150)) < 0 ∧ ¬ (gz (L 137) (glf (sI I 136 0 0) lc (L 145) ne) 8) = 0 ∧ ¬ ne = 40 ∧ 0 ≤ (100 + (nI (gfw ((sI I 136 0 0) 150)))) ∧ ¬ 0 ≤ (100 + (nI (gfw ((sI I 136 0 0) 150)))) ∧ (0 : Int32) = r ∧ (sI (sI (sI (sI I 136 0 0) 150 (gfw ((sI I 136 0 0) 150)) x1) 151 (gfw ((sI I 136 0 0) 150)) x2) 136 0 0) = I' ∧ (sL (gSS (sI I 136 0 0) lc L ne 8) 152 (gfw ((sI I 136 0 0) 150)) x3) = L') ∨ (vp_in x1 8 ∧ vp_in x2 np ∧ gMM I x1 x1.toNatClampNeg x2.toNatClampNeg ∧ ¬ x3 < 1 ∧ x3 ≤ 100000000000 ∧ ¬ x3 ≤ 10000 ∧ gfw ((sI I 136 0 0) 150) < 6 ∧ ¬ (gfw ((sI I 136 0 0) 150)) < 0 ∧ ¬ (gz (L 137) (glf (sI I 136 0 0) lc (L 145) ne) 8) = 0 ∧ ¬ ne = 40 ∧ ¬ 0 ≤ (100 + (nI (gfw ((sI I 136 0 0) 150)))) ∧ 0 ≤ (100 + (nI (gfw ((sI I 136 0 0) 150)))) ∧ 100 + (nI (gfw ((sI I 136 0 0) 150))) = r ∧ (sI (sI (sI (sI I 136 0 0) 150 (gfw ((sI I 136 0 0) 150)) x1) 151 (gfw ((sI I 136 0 0) 150)) x2) 136 0 4) = I' ∧ (sL (gSS (sI I 136 0 0) lc L ne 8) 152 (gfw ((sI I 136 0 0) 150)) x3) = L') ∨ (vp_in x1 8 ∧ vp_in x2 np ∧ gMM I x1 x1.toNatClampNeg x2.toNatClampNeg ∧ ¬ x3 < 1 ∧ x3 ≤ 100000000000 ∧ ¬ x3 ≤ 10000 ∧ gfw ((sI I 136 0 0) 150) < 6 ∧ ¬ (gfw ((sI I 136 0 0) 150)) < 0 ∧ ¬ (gz (L 137) (glf (sI I 136 0 0) lc (L 145) ne) 8) = 0 ∧ ¬ ne = 40 ∧ ¬ 0 ≤ (100 + (nI (gfw ((sI I 136 0 0) 150)))) ∧ ¬ 0 ≤ (100 + (nI (gfw ((sI I 136 0 0) 150)))) ∧ (0 : Int32) = r ∧ (sI (sI (sI (sI I 136 0 0) 150 (gfw ((sI I 136 0 0) 150)) x1) 151 (gfw ((sI I 136 0 0) 150)) x2) 136 0 4) = I' ∧ (sL (gSS (sI I 136 0 0) lc L ne 8) 152 (gfw ((sI I 136 0 0) 150)) x3) = L') ∨ (vp_in x1 8 ∧ vp_in x2 np ∧ gMM I x1 x1.toNatClampNeg x2.toNatClampNeg ∧ ¬ x3 < 1 ∧ x3 ≤ 100000000000 ∧ ¬ x3 ≤ 10000 ∧ gfw ((sI I 136 0 0) 150) < 6 ∧ ¬ (gfw ((sI I 136 0 0) 150)) < 0 ∧ ¬ (gz (L 137) (glf (sI I 136 0 0) lc (L 145) ne) 8) = 0 ∧ ne = 40 ∧ (0 : Int32) = r ∧ (sI (sI I 136 0 0) 136 0 4) = I' ∧ (gSS (sI I 136 0 0) lc L ne 8) = L') ∨ (vp_in x1 8 ∧ vp_in x2 np ∧ gMM I x1 x1.toNatClampNeg x2.toNatClampNeg ∧ ¬ x3 < 1 ∧ x3 ≤ 100000000000 ∧ ¬ x3 ≤ 10000 ∧ ¬ gfw ((sI I 136 0 0) 150) < 6 ∧ (0 : Int32) = r ∧ (sI (sI I 136 0 0) 136 0 4) = I' ∧ L = L') ∨ (vp_in x1 8 ∧ vp_in x2 np ∧ gMM I x1 x1.toNatClampNeg x2.toNatClampNeg ∧ ¬ x3 < 1 ∧ ¬ x3 ≤ 100000000000 ∧ (0 : Int32) = r ∧ (sI I 136 0 3) = I' ∧ L = L') ∨ (vp_in x1 8 ∧ vp_in x2 np ∧ ¬ gMM I x1 x1.toNatClampNeg x2.toNatClampNeg ∧ (0 : Int32) = r ∧ (sI I 136 0 2) = I' ∧ L = L') ∨ (vp_in x1 8 ∧ ¬ vp_in x2 np ∧ (0 : Int32) = r ∧ (sI I 136 0 1) = I' ∧ L = L') ∨ (¬ vp_in x1 8 ∧ (0 : Int32) = r ∧ (sI I 136 0 1) = I' ∧ L = L')
set_option maxRecDepth 100000 in
set_option maxHeartbeats 4000000 in
theorem ct_X4_ask (l : Launch) (D : va_G) (cy : Nat → ClassId) (ad : Nat → Nat) (hJ : gJ ad) (np : Nat) (ne : Nat) (lc : Nat → Nat) (x1 : Int32) (x2 : Int32) (x3 : Int64) (I : MI) (L : ML) (hmp : I 136 3 = nI np) (hmp10 : np ≤ 10) (hme : I 136 9 = nI ne) (hme40 : ne ≤ 40) (hml : ∀ p, p < 10 → I 139 p = nI (lc p)) (hml4 : ∀ p, p < 10 → lc p ≤ 4) (hma : ∀ p, p < 10 → ∀ k, k < lc p → vp_in (I 141 (4 * p + k)) 8) (hmr : ∀ e, e < ne → vp_in (I 144 e) 10) (hmd : ∀ p, p < 10 → gdis (gmA I p) (lc p)) : gMi l D cy ad yX4_ask cX4_ask 6 .int (gR 1 0 0) [.ref (ad 136), .int x1, .int x2, .long x3] I L (pq_X4_ask np ne lc x1 x2 x3 I L) := by
  refine gMi_of hJ (by decide +kernel) kc_X4_ask (Nat.le_of_ble_eq_true rfl) (fun p e s m below meth c A ls C hr hP hS hl => ?_)
  have hx := C.hx
  have hb := C.hb
  have hl : lv_has ls 6 [(0, .ref (ad 136)), (1, .int x1), (2, .int x2), (3, .long x3)] := hl
  refine lv_aload_n hx hb dX4_ask_0 rfl (lv_at hl 0 rfl) ?_
  refine lv_iload_n hx hb dX4_ask_1 rfl (lv_at hl 1 rfl) ?_
  refine gM_callSi (As := [.int x1]) (rest := [.ref (ad 136)]) C hP hS hl.1 (ct_X4_isOne l D cy ad hJ x1 I L) fa_X4_isOne kl_X4_72 kst_X4_isOne rfl (by decide) (Nat.le_of_ble_eq_true rfl) (by decide) dX4_ask_2 rfl (fun r2 I2 L2 H locs hq hP hS => ?_)
  rcases hq with ⟨h2_0, rfl, rfl, rfl⟩ | ⟨h2_0, rfl, rfl, rfl⟩
  · obtain ⟨e2_0, l2_0⟩ := vp_ix h2_0
    refine lv_if_eq (tgt := 16) hx hb dX4_ask_5 (by decide) (fun c => absurd c (by decide)) (fun _ => ?_)
    refine lv_aload_n hx hb dX4_ask_8 rfl (lv_at hl 0 rfl) ?_
    refine lv_iload_n hx hb dX4_ask_9 rfl (lv_at hl 2 rfl) ?_
    refine gM_callVi (As := [.int x2]) (rest := [.ref (ad 136)]) C hP hS hl.1 (ct_X4_isProcedure l D cy ad hJ np x2 I L hmp hmp10) fa_X4_isProcedure kl_X4_79 ki_X4_isProcedure kse_X4_isProcedure (by decide) (T := TX4) rfl rfl rfl (by decide) (Nat.le_of_ble_eq_true rfl) (by decide) dX4_ask_10 rfl (fun r10 I10 L10 H locs hq hP hS => ?_)
    rcases hq with ⟨h10_0, rfl, rfl, rfl⟩ | ⟨h10_0, rfl, rfl, rfl⟩
    · obtain ⟨e10_0, l10_0⟩ := vp_ix h10_0
      have q10_0 := hml4 x2.toNatClampNeg (by omega)
      refine lv_if_ne (tgt := 20) hx hb dX4_ask_13 (by decide) (fun _ => ?_) (fun c => absurd c (by decide))
      refine lv_aload_n hx hb dX4_ask_20 rfl (lv_at hl 0 rfl) ?_
      refine lv_iload_n hx hb dX4_ask_21 rfl (lv_at hl 1 rfl) ?_
      refine lv_iload_n hx hb dX4_ask_22 rfl (lv_at hl 2 rfl) ?_
      refine gM_callVi (As := [.int x1, .int x2]) (rest := [.ref (ad 136)]) C hP hS hl.1 (ct_X4_may l D cy ad hJ x1.toNatClampNeg x2.toNatClampNeg x1 x2 I L e2_0 (by omega) e10_0 (by omega)) fa_X4_may kl_X4_93 ki_X4_may kse_X4_may (by decide) (T := TX4) rfl rfl rfl (by decide) (Nat.le_of_ble_eq_true rfl) (by decide) dX4_ask_23 rfl (fun r23 I23 L23 H locs hq hP hS => ?_)
      rcases hq with ⟨h23_0, rfl, rfl, rfl⟩ | ⟨h23_0, rfl, rfl, rfl⟩
      · refine lv_if_ne (tgt := 33) hx hb dX4_ask_26 (by decide) (fun _ => ?_) (fun c => absurd c (by decide))
        refine lv_lload_n hx hb dX4_ask_33 rfl (lv_at hl 3 rfl) ?_
        refine lv_lconst (v := 1) hx hb dX4_ask_34 (by decide) ?_
        refine W.lcmp hx hb dX4_ask_35 ?_
        refine lv_if_lt (tgt := 47) hx hb dX4_ask_36 (by decide) (fun c36 => ?_) (fun c36 => ?_)
        · have n36 : x3 < 1 := (lg_cmp_lt _ _).mp c36
          refine lv_iconst (v := 3) hx hb dX4_ask_47 (by decide) ?_
          refine lv_goto (tgt := 52) hx hb dX4_ask_48 (by decide) ?_
          refine g_putI (T := TX4) C hP hS 136 0 (by decide) rfl rfl inwX4 tyX4 tyX4_ok nmX4 (by decide) kf_X4_65 rfl rfl (by decide : 0 < 20) (by simp only [sI, va_up_self]; rfl) dX4_ask_52 (fun H locs hP hS => ?_)
          refine lv_aload_n hx hb dX4_ask_55 rfl (lv_at hl 0 rfl) ?_
          refine g_get (v := .int 3) (T := TX4) C hP 136 0 (by decide) rfl rfl inwX4 (by decide) kf_X4_65 (congrArg (fun z => some (Value.int z)) sI_eq) dX4_ask_56 ?_
          refine lv_if_le (tgt := 64) hx hb dX4_ask_59 (by decide) (fun c => absurd c (by decide)) (fun _ => ?_)
          refine lv_iconst (v := 0) hx hb dX4_ask_62 (by decide) ?_
          exact gM_iret C hr hP hS (by decide) (by decide) dX4_ask_63 (Or.inl (⟨h2_0, h10_0, h23_0, n36, rfl, rfl, rfl⟩))
        · have n36 : ¬ x3 < 1 := (not_congr (lg_cmp_lt _ _)).mp c36
          refine lv_lload_n hx hb dX4_ask_39 rfl (lv_at hl 3 rfl) ?_
          refine lv_ldc2 (v := 100000000000) hx hb C.hown (C.hts _ kcn_X4_125) dX4_ask_40 ?_
          refine W.lcmp hx hb dX4_ask_43 ?_
          refine lv_if_le (tgt := 51) hx hb dX4_ask_44 (by decide) (fun c44 => ?_) (fun c44 => ?_)
          · have n44 : x3 ≤ 100000000000 := (lg_cmp_le _ _).mp c44
            refine lv_iconst (v := 0) hx hb dX4_ask_51 (by decide) ?_
            refine g_putI (T := TX4) C hP hS 136 0 (by decide) rfl rfl inwX4 tyX4 tyX4_ok nmX4 (by decide) kf_X4_65 rfl rfl (by decide : 0 < 20) (by simp only [sI, va_up_self]; rfl) dX4_ask_52 (fun H locs hP hS => ?_)
            refine lv_aload_n hx hb dX4_ask_55 rfl (lv_at hl 0 rfl) ?_
            refine g_get (v := .int 0) (T := TX4) C hP 136 0 (by decide) rfl rfl inwX4 (by decide) kf_X4_65 (congrArg (fun z => some (Value.int z)) sI_eq) dX4_ask_56 ?_
            refine lv_if_le (tgt := 64) hx hb dX4_ask_59 (by decide) (fun _ => ?_) (fun c => absurd c (by decide))
            refine lv_lload_n hx hb dX4_ask_64 rfl (lv_at hl 3 rfl) ?_
            refine lv_ldc2 (v := 10000) hx hb C.hown (C.hts _ kcn_X4_127) dX4_ask_65 ?_
            refine W.lcmp hx hb dX4_ask_68 ?_
            refine lv_if_le (tgt := 82) hx hb dX4_ask_69 (by decide) (fun c69 => ?_) (fun c69 => ?_)
            · have n69 : x3 ≤ 10000 := (lg_cmp_le _ _).mp c69
              refine lv_aload_n hx hb dX4_ask_82 rfl (lv_at hl 0 rfl) ?_
              refine lv_iload_n hx hb dX4_ask_83 rfl (lv_at hl 2 rfl) ?_
              refine lv_lload_n hx hb dX4_ask_84 rfl (lv_at hl 3 rfl) ?_
              refine lv_iload_n hx hb dX4_ask_85 rfl (lv_at hl 1 rfl) ?_
              refine lv_iconst (v := (-1)) hx hb dX4_ask_86 (by decide) ?_
              refine lv_iconst (v := (-1)) hx hb dX4_ask_87 (by decide) ?_
              refine gM_callVi (As := [.int x2, .long x3, .int x1, .int (-1), .int (-1)]) (rest := []) C hP hS hl.1 (ct_X4_enter l D cy ad hJ lc ne x2.toNatClampNeg x2 x3 x1 (-1 : Int32) (-1 : Int32) (sI I 136 0 0) L hme hme40 hml hml4 hma hmr hmd e10_0 (by omega) (fun h => absurd (by decide : (-1 : Int32) < 0) h)) fa_X4_enter kl_X4_133 ki_X4_enter kse_X4_enter (by decide) (T := TX4) rfl rfl rfl (by decide) (Nat.le_of_ble_eq_true rfl) (by decide) dX4_ask_88 rfl (fun r88 I88 L88 H locs hq hP hS => ?_)
              rcases hq with ⟨h88_0, rfl, rfl, rfl⟩ | ⟨h88_0, h88_1, rfl, rfl, rfl⟩ | ⟨h88_0, h88_1, h88_2, h88_3, h88_4, rfl, rfl, rfl⟩ | ⟨h88_0, h88_1, h88_2, h88_3, rfl, rfl, rfl⟩ | ⟨h88_0, h88_1, h88_2, h88_3, h88_4, rfl, rfl, rfl⟩ | ⟨h88_0, h88_1, h88_2, h88_3, rfl, rfl, rfl⟩
              · refine lv_istore (lv' := [(5, .int (-1)), (0, .ref (ad 136)), (1, .int x1), (2, .int x2), (3, .long x3)]) hx hb dX4_ask_91 hl (by decide) rfl (fun ls hl => ?_)
                refine lv_aload_n hx hb dX4_ask_93 rfl (lv_at hl 1 rfl) ?_
                refine lv_iload hx hb dX4_ask_94 (lv_at hl 0 rfl) ?_
                refine lv_if_ge (tgt := 103) hx hb dX4_ask_96 (by decide) (fun c => absurd c (by decide)) (fun _ => ?_)
                refine lv_iconst (v := 4) hx hb dX4_ask_99 (by decide) ?_
                refine lv_goto (tgt := 104) hx hb dX4_ask_100 (by decide) ?_
                refine g_putI (T := TX4) C hP hS 136 0 (by decide) rfl rfl inwX4 tyX4 tyX4_ok nmX4 (by decide) kf_X4_65 rfl rfl (by decide : 0 < 20) (by simp only [sI, va_up_self]; rfl) dX4_ask_104 (fun H locs hP hS => ?_)
                refine lv_iload hx hb dX4_ask_107 (lv_at hl 0 rfl) ?_
                refine lv_if_ge (tgt := 116) hx hb dX4_ask_109 (by decide) (fun c => absurd c (by decide)) (fun _ => ?_)
                refine lv_iconst (v := 0) hx hb dX4_ask_112 (by decide) ?_
                refine lv_goto (tgt := 118) hx hb dX4_ask_113 (by decide) ?_
                exact gM_iret C hr hP hS (by decide) (by decide) dX4_ask_118 (Or.inr (Or.inl (⟨h2_0, h10_0, h23_0, n36, n44, n69, h88_0, rfl, rfl, rfl⟩)))
              · refine lv_istore (lv' := [(5, .int (-1)), (0, .ref (ad 136)), (1, .int x1), (2, .int x2), (3, .long x3)]) hx hb dX4_ask_91 hl (by decide) rfl (fun ls hl => ?_)
                refine lv_aload_n hx hb dX4_ask_93 rfl (lv_at hl 1 rfl) ?_
                refine lv_iload hx hb dX4_ask_94 (lv_at hl 0 rfl) ?_
                refine lv_if_ge (tgt := 103) hx hb dX4_ask_96 (by decide) (fun c => absurd c (by decide)) (fun _ => ?_)
                refine lv_iconst (v := 4) hx hb dX4_ask_99 (by decide) ?_
                refine lv_goto (tgt := 104) hx hb dX4_ask_100 (by decide) ?_
                refine g_putI (T := TX4) C hP hS 136 0 (by decide) rfl rfl inwX4 tyX4 tyX4_ok nmX4 (by decide) kf_X4_65 rfl rfl (by decide : 0 < 20) (by simp only [sI, va_up_self]; rfl) dX4_ask_104 (fun H locs hP hS => ?_)
                refine lv_iload hx hb dX4_ask_107 (lv_at hl 0 rfl) ?_
                refine lv_if_ge (tgt := 116) hx hb dX4_ask_109 (by decide) (fun c => absurd c (by decide)) (fun _ => ?_)
                refine lv_iconst (v := 0) hx hb dX4_ask_112 (by decide) ?_
                refine lv_goto (tgt := 118) hx hb dX4_ask_113 (by decide) ?_
                exact gM_iret C hr hP hS (by decide) (by decide) dX4_ask_118 (Or.inr (Or.inr (Or.inl (⟨h2_0, h10_0, h23_0, n36, n44, n69, h88_0, h88_1, rfl, rfl, rfl⟩))))
              · refine lv_istore (lv' := [(5, .int (nI ne)), (0, .ref (ad 136)), (1, .int x1), (2, .int x2), (3, .long x3)]) hx hb dX4_ask_91 hl (by decide) rfl (fun ls hl => ?_)
                refine lv_aload_n hx hb dX4_ask_93 rfl (lv_at hl 1 rfl) ?_
                refine lv_iload hx hb dX4_ask_94 (lv_at hl 0 rfl) ?_
                refine lv_if_ge (tgt := 103) hx hb dX4_ask_96 (by decide) (fun c96 => ?_) (fun c96 => absurd (Nat.zero_le _) ((not_congr (nI_leeE (show (0 : Int32) = nI 0 from rfl) rfl (by omega) (by omega))).mp c96))
                have n96 : 0 ≤ ne := (nI_leeE (show (0 : Int32) = nI 0 from rfl) rfl (by omega) (by omega)).mp c96
                refine lv_iconst (v := 0) hx hb dX4_ask_103 (by decide) ?_
                refine g_putI (T := TX4) C hP hS 136 0 (by decide) rfl rfl inwX4 tyX4 tyX4_ok nmX4 (by decide) kf_X4_65 rfl rfl (by decide : 0 < 20) (by simp only [sI, va_up_self]; rfl) dX4_ask_104 (fun H locs hP hS => ?_)
                refine lv_iload hx hb dX4_ask_107 (lv_at hl 0 rfl) ?_
                refine lv_if_ge (tgt := 116) hx hb dX4_ask_109 (by decide) (fun c109 => ?_) (fun c109 => absurd (Nat.zero_le _) ((not_congr (nI_leeE (show (0 : Int32) = nI 0 from rfl) rfl (by omega) (by omega))).mp c109))
                have n109 : 0 ≤ ne := (nI_leeE (show (0 : Int32) = nI 0 from rfl) rfl (by omega) (by omega)).mp c109
                refine lv_iload hx hb dX4_ask_116 (lv_at hl 0 rfl) ?_
                exact gM_iret C hr hP hS (by decide) (by decide) dX4_ask_118 (Or.inr (Or.inr (Or.inr (Or.inl (⟨h2_0, h10_0, h23_0, n36, n44, n69, h88_0, h88_1, h88_2, h88_3, h88_4, n96, n109, rfl, rfl, rfl⟩)))))
              · refine lv_istore (lv' := [(5, .int (-1)), (0, .ref (ad 136)), (1, .int x1), (2, .int x2), (3, .long x3)]) hx hb dX4_ask_91 hl (by decide) rfl (fun ls hl => ?_)
                refine lv_aload_n hx hb dX4_ask_93 rfl (lv_at hl 1 rfl) ?_
                refine lv_iload hx hb dX4_ask_94 (lv_at hl 0 rfl) ?_
                refine lv_if_ge (tgt := 103) hx hb dX4_ask_96 (by decide) (fun c => absurd c (by decide)) (fun _ => ?_)
                refine lv_iconst (v := 4) hx hb dX4_ask_99 (by decide) ?_
                refine lv_goto (tgt := 104) hx hb dX4_ask_100 (by decide) ?_
                refine g_putI (T := TX4) C hP hS 136 0 (by decide) rfl rfl inwX4 tyX4 tyX4_ok nmX4 (by decide) kf_X4_65 rfl rfl (by decide : 0 < 20) (by simp only [sI, va_up_self]; rfl) dX4_ask_104 (fun H locs hP hS => ?_)
                refine lv_iload hx hb dX4_ask_107 (lv_at hl 0 rfl) ?_
                refine lv_if_ge (tgt := 116) hx hb dX4_ask_109 (by decide) (fun c => absurd c (by decide)) (fun _ => ?_)
                refine lv_iconst (v := 0) hx hb dX4_ask_112 (by decide) ?_
                refine lv_goto (tgt := 118) hx hb dX4_ask_113 (by decide) ?_
                exact gM_iret C hr hP hS (by decide) (by decide) dX4_ask_118 (Or.inr (Or.inr (Or.inr (Or.inr (Or.inl (⟨h2_0, h10_0, h23_0, n36, n44, n69, h88_0, h88_1, h88_2, h88_3, rfl, rfl, rfl⟩))))))
              · exact absurd (by decide) h88_4
              · exact absurd (by decide) h88_2
            · have n69 : ¬ x3 ≤ 10000 := (not_congr (lg_cmp_le _ _)).mp c69
              refine lv_aload_n hx hb dX4_ask_72 rfl (lv_at hl 0 rfl) ?_
              refine lv_iload_n hx hb dX4_ask_73 rfl (lv_at hl 1 rfl) ?_
              refine lv_iload_n hx hb dX4_ask_74 rfl (lv_at hl 2 rfl) ?_
              refine lv_lload_n hx hb dX4_ask_75 rfl (lv_at hl 3 rfl) ?_
              refine gM_callVi (As := [.int x1, .int x2, .long x3]) (rest := []) C hP hS hl.1 (ct_X4_request l D cy ad hJ lc ne x1 x2 x3 (sI I 136 0 0) L hme hme40 hml hml4 hma hmr) fa_X4_request kl_X4_129 ki_X4_request kse_X4_request (by decide) (T := TX4) rfl rfl rfl (by decide) (Nat.le_of_ble_eq_true rfl) (by decide) dX4_ask_76 rfl (fun r76 I76 L76 H locs hq hP hS => ?_)
              rcases hq with ⟨h76_0, h76_1, h76_2, rfl, rfl, rfl⟩ | ⟨h76_0, h76_1, h76_2, h76_3, rfl, rfl, rfl⟩ | ⟨h76_0, h76_1, h76_2, h76_3, rfl, rfl, rfl⟩ | ⟨h76_0, rfl, rfl, rfl⟩
              · refine lv_goto (tgt := 91) hx hb dX4_ask_79 (by decide) ?_
                refine lv_istore (lv' := [(5, .int (-1)), (0, .ref (ad 136)), (1, .int x1), (2, .int x2), (3, .long x3)]) hx hb dX4_ask_91 hl (by decide) rfl (fun ls hl => ?_)
                refine lv_aload_n hx hb dX4_ask_93 rfl (lv_at hl 1 rfl) ?_
                refine lv_iload hx hb dX4_ask_94 (lv_at hl 0 rfl) ?_
                refine lv_if_ge (tgt := 103) hx hb dX4_ask_96 (by decide) (fun c => absurd c (by decide)) (fun _ => ?_)
                refine lv_iconst (v := 4) hx hb dX4_ask_99 (by decide) ?_
                refine lv_goto (tgt := 104) hx hb dX4_ask_100 (by decide) ?_
                refine g_putI (T := TX4) C hP hS 136 0 (by decide) rfl rfl inwX4 tyX4 tyX4_ok nmX4 (by decide) kf_X4_65 rfl rfl (by decide : 0 < 20) (by simp only [sI, va_up_self]; rfl) dX4_ask_104 (fun H locs hP hS => ?_)
                refine lv_iload hx hb dX4_ask_107 (lv_at hl 0 rfl) ?_
                refine lv_if_ge (tgt := 116) hx hb dX4_ask_109 (by decide) (fun c => absurd c (by decide)) (fun _ => ?_)
                refine lv_iconst (v := 0) hx hb dX4_ask_112 (by decide) ?_
                refine lv_goto (tgt := 118) hx hb dX4_ask_113 (by decide) ?_
                exact gM_iret C hr hP hS (by decide) (by decide) dX4_ask_118 (Or.inr (Or.inr (Or.inr (Or.inr (Or.inr (Or.inl (⟨h2_0, h10_0, h23_0, n36, n44, n69, h76_0, h76_1, h76_2, rfl, rfl, rfl⟩)))))))
              · refine lv_goto (tgt := 91) hx hb dX4_ask_79 (by decide) ?_
                refine lv_istore (lv' := [(5, .int (100 + (nI (gfw ((sI I 136 0 0) 150))))), (0, .ref (ad 136)), (1, .int x1), (2, .int x2), (3, .long x3)]) hx hb dX4_ask_91 hl (by decide) rfl (fun ls hl => ?_)
                refine lv_aload_n hx hb dX4_ask_93 rfl (lv_at hl 1 rfl) ?_
                refine lv_iload hx hb dX4_ask_94 (lv_at hl 0 rfl) ?_
                refine lv_if_ge (tgt := 103) hx hb dX4_ask_96 (by decide) (fun c96 => ?_) (fun c96 => ?_)
                · refine lv_iconst (v := 0) hx hb dX4_ask_103 (by decide) ?_
                  refine g_putI (T := TX4) C hP hS 136 0 (by decide) rfl rfl inwX4 tyX4 tyX4_ok nmX4 (by decide) kf_X4_65 rfl rfl (by decide : 0 < 20) (by simp only [sI, va_up_self]; rfl) dX4_ask_104 (fun H locs hP hS => ?_)
                  refine lv_iload hx hb dX4_ask_107 (lv_at hl 0 rfl) ?_
                  refine lv_if_ge (tgt := 116) hx hb dX4_ask_109 (by decide) (fun c109 => ?_) (fun c109 => ?_)
                  · refine lv_iload hx hb dX4_ask_116 (lv_at hl 0 rfl) ?_
                    exact gM_iret C hr hP hS (by decide) (by decide) dX4_ask_118 (Or.inr (Or.inr (Or.inr (Or.inr (Or.inr (Or.inr (Or.inl (⟨h2_0, h10_0, h23_0, n36, n44, n69, h76_0, h76_1, h76_2, h76_3, c96, c109, rfl, rfl, rfl⟩))))))))
                  · refine lv_iconst (v := 0) hx hb dX4_ask_112 (by decide) ?_
                    refine lv_goto (tgt := 118) hx hb dX4_ask_113 (by decide) ?_
                    exact gM_iret C hr hP hS (by decide) (by decide) dX4_ask_118 (Or.inr (Or.inr (Or.inr (Or.inr (Or.inr (Or.inr (Or.inr (Or.inl (⟨h2_0, h10_0, h23_0, n36, n44, n69, h76_0, h76_1, h76_2, h76_3, c96, c109, rfl, rfl, rfl⟩)))))))))
                · refine lv_iconst (v := 4) hx hb dX4_ask_99 (by decide) ?_
                  refine lv_goto (tgt := 104) hx hb dX4_ask_100 (by decide) ?_
                  refine g_putI (T := TX4) C hP hS 136 0 (by decide) rfl rfl inwX4 tyX4 tyX4_ok nmX4 (by decide) kf_X4_65 rfl rfl (by decide : 0 < 20) (by simp only [sI, va_up_self]; rfl) dX4_ask_104 (fun H locs hP hS => ?_)
                  refine lv_iload hx hb dX4_ask_107 (lv_at hl 0 rfl) ?_
                  refine lv_if_ge (tgt := 116) hx hb dX4_ask_109 (by decide) (fun c109 => ?_) (fun c109 => ?_)
                  · refine lv_iload hx hb dX4_ask_116 (lv_at hl 0 rfl) ?_
                    exact gM_iret C hr hP hS (by decide) (by decide) dX4_ask_118 (Or.inr (Or.inr (Or.inr (Or.inr (Or.inr (Or.inr (Or.inr (Or.inr (Or.inl (⟨h2_0, h10_0, h23_0, n36, n44, n69, h76_0, h76_1, h76_2, h76_3, c96, c109, rfl, rfl, rfl⟩))))))))))
                  · refine lv_iconst (v := 0) hx hb dX4_ask_112 (by decide) ?_
                    refine lv_goto (tgt := 118) hx hb dX4_ask_113 (by decide) ?_
                    exact gM_iret C hr hP hS (by decide) (by decide) dX4_ask_118 (Or.inr (Or.inr (Or.inr (Or.inr (Or.inr (Or.inr (Or.inr (Or.inr (Or.inr (Or.inl (⟨h2_0, h10_0, h23_0, n36, n44, n69, h76_0, h76_1, h76_2, h76_3, c96, c109, rfl, rfl, rfl⟩)))))))))))
              · refine lv_goto (tgt := 91) hx hb dX4_ask_79 (by decide) ?_
                refine lv_istore (lv' := [(5, .int (-1)), (0, .ref (ad 136)), (1, .int x1), (2, .int x2), (3, .long x3)]) hx hb dX4_ask_91 hl (by decide) rfl (fun ls hl => ?_)
                refine lv_aload_n hx hb dX4_ask_93 rfl (lv_at hl 1 rfl) ?_
                refine lv_iload hx hb dX4_ask_94 (lv_at hl 0 rfl) ?_
                refine lv_if_ge (tgt := 103) hx hb dX4_ask_96 (by decide) (fun c => absurd c (by decide)) (fun _ => ?_)
                refine lv_iconst (v := 4) hx hb dX4_ask_99 (by decide) ?_
                refine lv_goto (tgt := 104) hx hb dX4_ask_100 (by decide) ?_
                refine g_putI (T := TX4) C hP hS 136 0 (by decide) rfl rfl inwX4 tyX4 tyX4_ok nmX4 (by decide) kf_X4_65 rfl rfl (by decide : 0 < 20) (by simp only [sI, va_up_self]; rfl) dX4_ask_104 (fun H locs hP hS => ?_)
                refine lv_iload hx hb dX4_ask_107 (lv_at hl 0 rfl) ?_
                refine lv_if_ge (tgt := 116) hx hb dX4_ask_109 (by decide) (fun c => absurd c (by decide)) (fun _ => ?_)
                refine lv_iconst (v := 0) hx hb dX4_ask_112 (by decide) ?_
                refine lv_goto (tgt := 118) hx hb dX4_ask_113 (by decide) ?_
                exact gM_iret C hr hP hS (by decide) (by decide) dX4_ask_118 (Or.inr (Or.inr (Or.inr (Or.inr (Or.inr (Or.inr (Or.inr (Or.inr (Or.inr (Or.inr (Or.inl (⟨h2_0, h10_0, h23_0, n36, n44, n69, h76_0, h76_1, h76_2, h76_3, rfl, rfl, rfl⟩))))))))))))
              · refine lv_goto (tgt := 91) hx hb dX4_ask_79 (by decide) ?_
                refine lv_istore (lv' := [(5, .int (-1)), (0, .ref (ad 136)), (1, .int x1), (2, .int x2), (3, .long x3)]) hx hb dX4_ask_91 hl (by decide) rfl (fun ls hl => ?_)
                refine lv_aload_n hx hb dX4_ask_93 rfl (lv_at hl 1 rfl) ?_
                refine lv_iload hx hb dX4_ask_94 (lv_at hl 0 rfl) ?_
                refine lv_if_ge (tgt := 103) hx hb dX4_ask_96 (by decide) (fun c => absurd c (by decide)) (fun _ => ?_)
                refine lv_iconst (v := 4) hx hb dX4_ask_99 (by decide) ?_
                refine lv_goto (tgt := 104) hx hb dX4_ask_100 (by decide) ?_
                refine g_putI (T := TX4) C hP hS 136 0 (by decide) rfl rfl inwX4 tyX4 tyX4_ok nmX4 (by decide) kf_X4_65 rfl rfl (by decide : 0 < 20) (by simp only [sI, va_up_self]; rfl) dX4_ask_104 (fun H locs hP hS => ?_)
                refine lv_iload hx hb dX4_ask_107 (lv_at hl 0 rfl) ?_
                refine lv_if_ge (tgt := 116) hx hb dX4_ask_109 (by decide) (fun c => absurd c (by decide)) (fun _ => ?_)
                refine lv_iconst (v := 0) hx hb dX4_ask_112 (by decide) ?_
                refine lv_goto (tgt := 118) hx hb dX4_ask_113 (by decide) ?_
                exact gM_iret C hr hP hS (by decide) (by decide) dX4_ask_118 (Or.inr (Or.inr (Or.inr (Or.inr (Or.inr (Or.inr (Or.inr (Or.inr (Or.inr (Or.inr (Or.inr (Or.inl (⟨h2_0, h10_0, h23_0, n36, n44, n69, h76_0, rfl, rfl, rfl⟩)))))))))))))
          · have n44 : ¬ x3 ≤ 100000000000 := (not_congr (lg_cmp_le _ _)).mp c44
            refine lv_iconst (v := 3) hx hb dX4_ask_47 (by decide) ?_
            refine lv_goto (tgt := 52) hx hb dX4_ask_48 (by decide) ?_
            refine g_putI (T := TX4) C hP hS 136 0 (by decide) rfl rfl inwX4 tyX4 tyX4_ok nmX4 (by decide) kf_X4_65 rfl rfl (by decide : 0 < 20) (by simp only [sI, va_up_self]; rfl) dX4_ask_52 (fun H locs hP hS => ?_)
            refine lv_aload_n hx hb dX4_ask_55 rfl (lv_at hl 0 rfl) ?_
            refine g_get (v := .int 3) (T := TX4) C hP 136 0 (by decide) rfl rfl inwX4 (by decide) kf_X4_65 (congrArg (fun z => some (Value.int z)) sI_eq) dX4_ask_56 ?_
            refine lv_if_le (tgt := 64) hx hb dX4_ask_59 (by decide) (fun c => absurd c (by decide)) (fun _ => ?_)
            refine lv_iconst (v := 0) hx hb dX4_ask_62 (by decide) ?_
            exact gM_iret C hr hP hS (by decide) (by decide) dX4_ask_63 (Or.inr (Or.inr (Or.inr (Or.inr (Or.inr (Or.inr (Or.inr (Or.inr (Or.inr (Or.inr (Or.inr (Or.inr (Or.inl (⟨h2_0, h10_0, h23_0, n36, n44, rfl, rfl, rfl⟩))))))))))))))
      · refine lv_if_ne (tgt := 33) hx hb dX4_ask_26 (by decide) (fun c => absurd c (by decide)) (fun _ => ?_)
        refine lv_iconst (v := 2) hx hb dX4_ask_29 (by decide) ?_
        refine lv_goto (tgt := 52) hx hb dX4_ask_30 (by decide) ?_
        refine g_putI (T := TX4) C hP hS 136 0 (by decide) rfl rfl inwX4 tyX4 tyX4_ok nmX4 (by decide) kf_X4_65 rfl rfl (by decide : 0 < 20) (by simp only [sI, va_up_self]; rfl) dX4_ask_52 (fun H locs hP hS => ?_)
        refine lv_aload_n hx hb dX4_ask_55 rfl (lv_at hl 0 rfl) ?_
        refine g_get (v := .int 2) (T := TX4) C hP 136 0 (by decide) rfl rfl inwX4 (by decide) kf_X4_65 (congrArg (fun z => some (Value.int z)) sI_eq) dX4_ask_56 ?_
        refine lv_if_le (tgt := 64) hx hb dX4_ask_59 (by decide) (fun c => absurd c (by decide)) (fun _ => ?_)
        refine lv_iconst (v := 0) hx hb dX4_ask_62 (by decide) ?_
        exact gM_iret C hr hP hS (by decide) (by decide) dX4_ask_63 (Or.inr (Or.inr (Or.inr (Or.inr (Or.inr (Or.inr (Or.inr (Or.inr (Or.inr (Or.inr (Or.inr (Or.inr (Or.inr (Or.inl (⟨h2_0, h10_0, h23_0, rfl, rfl, rfl⟩)))))))))))))))
    · refine lv_if_ne (tgt := 20) hx hb dX4_ask_13 (by decide) (fun c => absurd c (by decide)) (fun _ => ?_)
      refine lv_iconst (v := 1) hx hb dX4_ask_16 (by decide) ?_
      refine lv_goto (tgt := 52) hx hb dX4_ask_17 (by decide) ?_
      refine g_putI (T := TX4) C hP hS 136 0 (by decide) rfl rfl inwX4 tyX4 tyX4_ok nmX4 (by decide) kf_X4_65 rfl rfl (by decide : 0 < 20) (by simp only [sI, va_up_self]; rfl) dX4_ask_52 (fun H locs hP hS => ?_)
      refine lv_aload_n hx hb dX4_ask_55 rfl (lv_at hl 0 rfl) ?_
      refine g_get (v := .int 1) (T := TX4) C hP 136 0 (by decide) rfl rfl inwX4 (by decide) kf_X4_65 (congrArg (fun z => some (Value.int z)) sI_eq) dX4_ask_56 ?_
      refine lv_if_le (tgt := 64) hx hb dX4_ask_59 (by decide) (fun c => absurd c (by decide)) (fun _ => ?_)
      refine lv_iconst (v := 0) hx hb dX4_ask_62 (by decide) ?_
      exact gM_iret C hr hP hS (by decide) (by decide) dX4_ask_63 (Or.inr (Or.inr (Or.inr (Or.inr (Or.inr (Or.inr (Or.inr (Or.inr (Or.inr (Or.inr (Or.inr (Or.inr (Or.inr (Or.inr (Or.inl (⟨h2_0, h10_0, rfl, rfl, rfl⟩))))))))))))))))
  · refine lv_if_eq (tgt := 16) hx hb dX4_ask_5 (by decide) (fun _ => ?_) (fun c => absurd c (by decide))
    refine lv_iconst (v := 1) hx hb dX4_ask_16 (by decide) ?_
    refine lv_goto (tgt := 52) hx hb dX4_ask_17 (by decide) ?_
    refine g_putI (T := TX4) C hP hS 136 0 (by decide) rfl rfl inwX4 tyX4 tyX4_ok nmX4 (by decide) kf_X4_65 rfl rfl (by decide : 0 < 20) (by simp only [sI, va_up_self]; rfl) dX4_ask_52 (fun H locs hP hS => ?_)
    refine lv_aload_n hx hb dX4_ask_55 rfl (lv_at hl 0 rfl) ?_
    refine g_get (v := .int 1) (T := TX4) C hP 136 0 (by decide) rfl rfl inwX4 (by decide) kf_X4_65 (congrArg (fun z => some (Value.int z)) sI_eq) dX4_ask_56 ?_
    refine lv_if_le (tgt := 64) hx hb dX4_ask_59 (by decide) (fun c => absurd c (by decide)) (fun _ => ?_)
    refine lv_iconst (v := 0) hx hb dX4_ask_62 (by decide) ?_
    exact gM_iret C hr hP hS (by decide) (by decide) dX4_ask_63 (Or.inr (Or.inr (Or.inr (Or.inr (Or.inr (Or.inr (Or.inr (Or.inr (Or.inr (Or.inr (Or.inr (Or.inr (Or.inr (Or.inr (Or.inr (⟨h2_0, rfl, rfl, rfl⟩))))))))))))))))
def pq_X4_approve (np : Nat) (ne : Nat) (lc : Nat → Nat) (x1 : Int32) (x2 : Int32) (I : MI) (L : ML) : Int32 → MI → ML → Prop := fun r I' L' => (vp_in x1 8 ∧ (vp_in x2 6 ∧ ¬ I 150 x2.toNatClampNeg < 0) ∧ (gMM I x1 x1.toNatClampNeg (I 151 x2.toNatClampNeg).toNatClampNeg ∧ ¬ I 150 x2.toNatClampNeg = x1) ∧ gMM I (I 150 x2.toNatClampNeg) ((I 150 x2.toNatClampNeg).toNatClampNeg) ((I 151 x2.toNatClampNeg).toNatClampNeg) ∧ (gz (L 137) (glf (sI I 136 0 0) lc (L 145) ne) 8) = 0 ∧ (0 : Int32) = r ∧ (sI (sI I 136 0 0) 136 0 3) = I' ∧ (gSS (sI I 136 0 0) lc L ne 8) = L') ∨ (vp_in x1 8 ∧ (vp_in x2 6 ∧ ¬ I 150 x2.toNatClampNeg < 0) ∧ (gMM I x1 x1.toNatClampNeg (I 151 x2.toNatClampNeg).toNatClampNeg ∧ ¬ I 150 x2.toNatClampNeg = x1) ∧ gMM I (I 150 x2.toNatClampNeg) ((I 150 x2.toNatClampNeg).toNatClampNeg) ((I 151 x2.toNatClampNeg).toNatClampNeg) ∧ ¬ (gz (L 137) (glf (sI I 136 0 0) lc (L 145) ne) 8) = 0 ∧ ne = 40 ∧ (0 : Int32) = r ∧ (sI (sI I 136 0 0) 136 0 3) = I' ∧ (gSS (sI I 136 0 0) lc L ne 8) = L') ∨ (vp_in x1 8 ∧ (vp_in x2 6 ∧ ¬ I 150 x2.toNatClampNeg < 0) ∧ (gMM I x1 x1.toNatClampNeg (I 151 x2.toNatClampNeg).toNatClampNeg ∧ ¬ I 150 x2.toNatClampNeg = x1) ∧ gMM I (I 150 x2.toNatClampNeg) ((I 150 x2.toNatClampNeg).toNatClampNeg) ((I 151 x2.toNatClampNeg).toNatClampNeg) ∧ ¬ (gz (L 137) (glf (sI I 136 0 0) lc (L 145) ne) 8) = 0 ∧ ¬ ne = 40 ∧ (-1 : Int32) < 0 ∧ (∀ k, k < (lc ((I 151 x2.toNatClampNeg).toNatClampNeg)) → ¬ gfl (gmA (sI I 136 0 0) ((I 151 x2.toNatClampNeg).toNatClampNeg)) ((gSS (sI I 136 0 0) lc L ne 8) 137) ((gSS (sI I 136 0 0) lc L ne 8) 138) (fun k => 1 * gpw (L 152 x2.toNatClampNeg) (gmS (sI I 136 0 0) ((I 151 x2.toNatClampNeg).toNatClampNeg)) (lc ((I 151 x2.toNatClampNeg).toNatClampNeg)) ((gSS (sI I 136 0 0) lc L ne 8) 153) k) k) ∧ (-1 : Int32) < 0 ∧ 0 ≤ ne ∧ 0 ≤ ne ∧ nI ne = r ∧ (sI (sI (sI (sI (sI (sI (sI (sI (sI I 136 0 0) 144 ne (I 151 x2.toNatClampNeg)) 146 ne (I 150 x2.toNatClampNeg)) 147 ne x1) 148 ne (-1 : Int32)) 149 ne (-1)) 136 9 ((nI ne) + 1)) 136 0 0) 150 x2.toNatClampNeg (-1)) = I' ∧ (sL (gRM (va_up (gSS (sI I 136 0 0) lc L ne 8) 153 (gpw (L 152 x2.toNatClampNeg) (gmS (sI I 136 0 0) ((I 151 x2.toNatClampNeg).toNatClampNeg)) (lc ((I 151 x2.toNatClampNeg).toNatClampNeg)) ((gSS (sI I 136 0 0) lc L ne 8) 153))) (gmA (sI I 136 0 0) ((I 151 x2.toNatClampNeg).toNatClampNeg)) (fun k => 1 * gpw (L 152 x2.toNatClampNeg) (gmS (sI I 136 0 0) ((I 151 x2.toNatClampNeg).toNatClampNeg)) (lc ((I 151 x2.toNatClampNeg).toNatClampNeg)) ((gSS (sI I 136 0 0) lc L ne 8) 153) k) (lc ((I 151 x2.toNatClampNeg).toNatClampNeg))) 145 ne (L 152 x2.toNatClampNeg)) = L') ∨ (vp_in x1 8 ∧ (vp_in x2 6 ∧ ¬ I 150 x2.toNatClampNeg < 0) ∧ (gMM I x1 x1.toNatClampNeg (I 151 x2.toNatClampNeg).toNatClampNeg ∧ ¬ I 150 x2.toNatClampNeg = x1) ∧ gMM I (I 150 x2.toNatClampNeg) ((I 150 x2.toNatClampNeg).toNatClampNeg) ((I 151 x2.toNatClampNeg).toNatClampNeg) ∧ ¬ (gz (L 137) (glf (sI I 136 0 0) lc (L 145) ne) 8) = 0 ∧ ¬ ne = 40 ∧ (-1 : Int32) < 0 ∧ (¬ (∀ k, k < (lc ((I 151 x2.toNatClampNeg).toNatClampNeg)) → ¬ gfl (gmA (sI I 136 0 0) ((I 151 x2.toNatClampNeg).toNatClampNeg)) ((gSS (sI I 136 0 0) lc L ne 8) 137) ((gSS (sI I 136 0 0) lc L ne 8) 138) (fun k => 1 * gpw (L 152 x2.toNatClampNeg) (gmS (sI I 136 0 0) ((I 151 x2.toNatClampNeg).toNatClampNeg)) (lc ((I 151 x2.toNatClampNeg).toNatClampNeg)) ((gSS (sI I 136 0 0) lc L ne 8) 153) k) k)) ∧ (0 : Int32) = r ∧ (sI (sI I 136 0 0) 136 0 3) = I' ∧ (va_up (gSS (sI I 136 0 0) lc L ne 8) 153 (gpw (L 152 x2.toNatClampNeg) (gmS (sI I 136 0 0) ((I 151 x2.toNatClampNeg).toNatClampNeg)) (lc ((I 151 x2.toNatClampNeg).toNatClampNeg)) ((gSS (sI I 136 0 0) lc L ne 8) 153))) = L') ∨ (vp_in x1 8 ∧ (vp_in x2 6 ∧ ¬ I 150 x2.toNatClampNeg < 0) ∧ (gMM I x1 x1.toNatClampNeg (I 151 x2.toNatClampNeg).toNatClampNeg ∧ ¬ I 150 x2.toNatClampNeg = x1) ∧ ¬ gMM I (I 150 x2.toNatClampNeg) ((I 150 x2.toNatClampNeg).toNatClampNeg) ((I 151 x2.toNatClampNeg).toNatClampNeg) ∧ (0 : Int32) = r ∧ (sI I 136 0 2) = I' ∧ L = L') ∨ (vp_in x1 8 ∧ (vp_in x2 6 ∧ ¬ I 150 x2.toNatClampNeg < 0) ∧ (¬ (gMM I x1 x1.toNatClampNeg (I 151 x2.toNatClampNeg).toNatClampNeg ∧ ¬ I 150 x2.toNatClampNeg = x1)) ∧ (0 : Int32) = r ∧ (sI I 136 0 2) = I' ∧ L = L') ∨ (vp_in x1 8 ∧ (¬ (vp_in x2 6 ∧ ¬ I 150 x2.toNatClampNeg < 0)) ∧ (0 : Int32) = r ∧ (sI I 136 0 1) = I' ∧ L = L') ∨ (¬ vp_in x1 8 ∧ (0 : Int32) = r ∧ (sI I 136 0 1) = I' ∧ L = L')
set_option maxRecDepth 100000 in
set_option maxHeartbeats 4000000 in
theorem ct_X4_approve (l : Launch) (D : va_G) (cy : Nat → ClassId) (ad : Nat → Nat) (hJ : gJ ad) (np : Nat) (ne : Nat) (lc : Nat → Nat) (x1 : Int32) (x2 : Int32) (I : MI) (L : ML) (hmp : I 136 3 = nI np) (hmp10 : np ≤ 10) (hme : I 136 9 = nI ne) (hme40 : ne ≤ 40) (hml : ∀ p, p < 10 → I 139 p = nI (lc p)) (hml4 : ∀ p, p < 10 → lc p ≤ 4) (hma : ∀ p, p < 10 → ∀ k, k < lc p → vp_in (I 141 (4 * p + k)) 8) (hmr : ∀ e, e < ne → vp_in (I 144 e) 10) (hmd : ∀ p, p < 10 → gdis (gmA I p) (lc p)) (hmw : ∀ q, q < 6 → ¬ I 150 q < 0 → vp_in (I 150 q) 8 ∧ vp_in (I 151 q) np) : gMi l D cy ad yX4_approve cX4_approve 4 .int (gR 1 0 0) [.ref (ad 136), .int x1, .int x2] I L (pq_X4_approve np ne lc x1 x2 I L) := by
  refine gMi_of hJ (by decide +kernel) kc_X4_approve (Nat.le_of_ble_eq_true rfl) (fun p e s m below meth c A ls C hr hP hS hl => ?_)
  have hx := C.hx
  have hb := C.hb
  have hl : lv_has ls 4 [(0, .ref (ad 136)), (1, .int x1), (2, .int x2)] := hl
  refine lv_aload_n hx hb dX4_approve_0 rfl (lv_at hl 0 rfl) ?_
  refine lv_iload_n hx hb dX4_approve_1 rfl (lv_at hl 1 rfl) ?_
  refine gM_callSi (As := [.int x1]) (rest := [.ref (ad 136)]) C hP hS hl.1 (ct_X4_isOne l D cy ad hJ x1 I L) fa_X4_isOne kl_X4_72 kst_X4_isOne rfl (by decide) (Nat.le_of_ble_eq_true rfl) (by decide) dX4_approve_2 rfl (fun r2 I2 L2 H locs hq hP hS => ?_)
  rcases hq with ⟨h2_0, rfl, rfl, rfl⟩ | ⟨h2_0, rfl, rfl, rfl⟩
  · obtain ⟨e2_0, l2_0⟩ := vp_ix h2_0
    refine lv_if_eq (tgt := 16) hx hb dX4_approve_5 (by decide) (fun c => absurd c (by decide)) (fun _ => ?_)
    refine lv_aload_n hx hb dX4_approve_8 rfl (lv_at hl 0 rfl) ?_
    refine lv_iload_n hx hb dX4_approve_9 rfl (lv_at hl 2 rfl) ?_
    refine gM_callVi (As := [.int x2]) (rest := [.ref (ad 136)]) C hP hS hl.1 (ct_X4_isRequest l D cy ad hJ x2 I L) fa_X4_isRequest kl_X4_137 ki_X4_isRequest kse_X4_isRequest (by decide) (T := TX4) rfl rfl rfl (by decide) (Nat.le_of_ble_eq_true rfl) (by decide) dX4_approve_10 rfl (fun r10 I10 L10 H locs hq hP hS => ?_)
    rcases hq with ⟨h10_0, rfl, rfl, rfl⟩ | ⟨h10_0, rfl, rfl, rfl⟩
    · obtain ⟨e10_0, l10_0⟩ := vp_ix h10_0.1
      have hw9 := hmw x2.toNatClampNeg (by omega) h10_0.2
      obtain ⟨ew1, lw1⟩ := vp_ix hw9.1
      obtain ⟨ew2, lw2⟩ := vp_ix hw9.2
      refine lv_if_ne (tgt := 20) hx hb dX4_approve_13 (by decide) (fun _ => ?_) (fun c => absurd c (by decide))
      refine lv_aload_n hx hb dX4_approve_20 rfl (lv_at hl 0 rfl) ?_
      refine lv_iload_n hx hb dX4_approve_21 rfl (lv_at hl 1 rfl) ?_
      refine lv_iload_n hx hb dX4_approve_22 rfl (lv_at hl 2 rfl) ?_
      refine gM_callVi (As := [.int x1, .int x2]) (rest := [.ref (ad 136)]) C hP hS hl.1 (ct_X4_mayApprove l D cy ad hJ x1.toNatClampNeg x2.toNatClampNeg x1 x2 I L e2_0 (by omega) e10_0 (by omega) (vp_mono hw9.2 (by omega))) fa_X4_mayApprove kl_X4_140 ki_X4_mayApprove kse_X4_mayApprove (by decide) (T := TX4) rfl rfl rfl (by decide) (Nat.le_of_ble_eq_true rfl) (by decide) dX4_approve_23 rfl (fun r23 I23 L23 H locs hq hP hS => ?_)
      rcases hq with ⟨h23_0, rfl, rfl, rfl⟩ | ⟨h23_0, rfl, rfl, rfl⟩
      · refine lv_if_eq (tgt := 48) hx hb dX4_approve_26 (by decide) (fun c => absurd c (by decide)) (fun _ => ?_)
        refine lv_aload_n hx hb dX4_approve_29 rfl (lv_at hl 0 rfl) ?_
        refine lv_aload_n hx hb dX4_approve_30 rfl (lv_at hl 0 rfl) ?_
        refine g_get (v := .ref (ad 150)) (T := TX4) C hP 136 16 (by decide) rfl rfl inwX4 (by decide) kf_X4_51 rfl dX4_approve_31 ?_
        refine lv_iload_n hx hb dX4_approve_34 rfl (lv_at hl 2 rfl) ?_
        refine g_iald (v := I 150 x2.toNatClampNeg) C hP 150 6 (by decide) (fun _ _ => rfl) x2.toNatClampNeg e10_0 rfl (by omega) (by decide) dX4_approve_35 ?_
        refine lv_aload_n hx hb dX4_approve_36 rfl (lv_at hl 0 rfl) ?_
        refine g_get (v := .ref (ad 151)) (T := TX4) C hP 136 17 (by decide) rfl rfl inwX4 (by decide) kf_X4_54 rfl dX4_approve_37 ?_
        refine lv_iload_n hx hb dX4_approve_40 rfl (lv_at hl 2 rfl) ?_
        refine g_iald (v := I 151 x2.toNatClampNeg) C hP 151 6 (by decide) (fun _ _ => rfl) x2.toNatClampNeg e10_0 rfl (by omega) (by decide) dX4_approve_41 ?_
        refine gM_callVi (As := [.int (I 150 x2.toNatClampNeg), .int (I 151 x2.toNatClampNeg)]) (rest := [.ref (ad 136)]) C hP hS hl.1 (ct_X4_may l D cy ad hJ ((I 150 x2.toNatClampNeg).toNatClampNeg) ((I 151 x2.toNatClampNeg).toNatClampNeg) (I 150 x2.toNatClampNeg) (I 151 x2.toNatClampNeg) I L ew1 (by omega) ew2 (by omega)) fa_X4_may kl_X4_93 ki_X4_may kse_X4_may (by decide) (T := TX4) rfl rfl rfl (by decide) (Nat.le_of_ble_eq_true rfl) (by decide) dX4_approve_42 rfl (fun r42 I42 L42 H locs hq hP hS => ?_)
        rcases hq with ⟨h42_0, rfl, rfl, rfl⟩ | ⟨h42_0, rfl, rfl, rfl⟩
        · refine lv_if_ne (tgt := 52) hx hb dX4_approve_45 (by decide) (fun _ => ?_) (fun c => absurd c (by decide))
          refine lv_iconst (v := 0) hx hb dX4_approve_52 (by decide) ?_
          refine g_putI (T := TX4) C hP hS 136 0 (by decide) rfl rfl inwX4 tyX4 tyX4_ok nmX4 (by decide) kf_X4_65 rfl rfl (by decide : 0 < 20) (by simp only [sI, va_up_self]; rfl) dX4_approve_53 (fun H locs hP hS => ?_)
          refine lv_aload_n hx hb dX4_approve_56 rfl (lv_at hl 0 rfl) ?_
          refine g_get (v := .int 0) (T := TX4) C hP 136 0 (by decide) rfl rfl inwX4 (by decide) kf_X4_65 (congrArg (fun z => some (Value.int z)) sI_eq) dX4_approve_57 ?_
          refine lv_if_le (tgt := 65) hx hb dX4_approve_60 (by decide) (fun _ => ?_) (fun c => absurd c (by decide))
          refine lv_aload_n hx hb dX4_approve_65 rfl (lv_at hl 0 rfl) ?_
          refine lv_aload_n hx hb dX4_approve_66 rfl (lv_at hl 0 rfl) ?_
          refine g_get (v := .ref (ad 151)) (T := TX4) C hP 136 17 (by decide) rfl rfl inwX4 (by decide) kf_X4_54 rfl dX4_approve_67 ?_
          refine lv_iload_n hx hb dX4_approve_70 rfl (lv_at hl 2 rfl) ?_
          refine g_iald (v := I 151 x2.toNatClampNeg) C hP 151 6 (by decide) (fun _ _ => rfl) x2.toNatClampNeg e10_0 (congrFun (sI_row (by decide)) _) (by omega) (by decide) dX4_approve_71 ?_
          refine lv_aload_n hx hb dX4_approve_72 rfl (lv_at hl 0 rfl) ?_
          refine g_get (v := .ref (ad 152)) (T := TX4) C hP 136 18 (by decide) rfl rfl inwX4 (by decide) kf_X4_57 rfl dX4_approve_73 ?_
          refine lv_iload_n hx hb dX4_approve_76 rfl (lv_at hl 2 rfl) ?_
          refine g_lald (v := L 152 x2.toNatClampNeg) C hP 152 6 (by decide) (fun _ _ => rfl) x2.toNatClampNeg e10_0 rfl (by omega) (by decide) dX4_approve_77 ?_
          refine lv_aload_n hx hb dX4_approve_78 rfl (lv_at hl 0 rfl) ?_
          refine g_get (v := .ref (ad 150)) (T := TX4) C hP 136 16 (by decide) rfl rfl inwX4 (by decide) kf_X4_51 rfl dX4_approve_79 ?_
          refine lv_iload_n hx hb dX4_approve_82 rfl (lv_at hl 2 rfl) ?_
          refine g_iald (v := I 150 x2.toNatClampNeg) C hP 150 6 (by decide) (fun _ _ => rfl) x2.toNatClampNeg e10_0 (congrFun (sI_row (by decide)) _) (by omega) (by decide) dX4_approve_83 ?_
          refine lv_iload_n hx hb dX4_approve_84 rfl (lv_at hl 1 rfl) ?_
          refine lv_iconst (v := (-1)) hx hb dX4_approve_85 (by decide) ?_
          refine gM_callVi (As := [.int (I 151 x2.toNatClampNeg), .long (L 152 x2.toNatClampNeg), .int (I 150 x2.toNatClampNeg), .int x1, .int (-1)]) (rest := []) C hP hS hl.1 (ct_X4_enter l D cy ad hJ lc ne ((I 151 x2.toNatClampNeg).toNatClampNeg) (I 151 x2.toNatClampNeg) (L 152 x2.toNatClampNeg) (I 150 x2.toNatClampNeg) x1 (-1 : Int32) (sI I 136 0 0) L hme hme40 hml hml4 hma hmr hmd ew2 (by omega) (fun h => absurd (by decide : (-1 : Int32) < 0) h)) fa_X4_enter kl_X4_133 ki_X4_enter kse_X4_enter (by decide) (T := TX4) rfl rfl rfl (by decide) (Nat.le_of_ble_eq_true rfl) (by decide) dX4_approve_86 rfl (fun r86 I86 L86 H locs hq hP hS => ?_)
          rcases hq with ⟨h86_0, rfl, rfl, rfl⟩ | ⟨h86_0, h86_1, rfl, rfl, rfl⟩ | ⟨h86_0, h86_1, h86_2, h86_3, h86_4, rfl, rfl, rfl⟩ | ⟨h86_0, h86_1, h86_2, h86_3, rfl, rfl, rfl⟩ | ⟨h86_0, h86_1, h86_2, h86_3, h86_4, rfl, rfl, rfl⟩ | ⟨h86_0, h86_1, h86_2, h86_3, rfl, rfl, rfl⟩
          · refine lv_istore_n (lv' := [(3, .int (-1)), (0, .ref (ad 136)), (1, .int x1), (2, .int x2)]) hx hb dX4_approve_89 rfl hl (by decide) rfl (fun ls hl => ?_)
            refine lv_aload_n hx hb dX4_approve_90 rfl (lv_at hl 1 rfl) ?_
            refine lv_iload_n hx hb dX4_approve_91 rfl (lv_at hl 0 rfl) ?_
            refine lv_if_ge (tgt := 99) hx hb dX4_approve_92 (by decide) (fun c => absurd c (by decide)) (fun _ => ?_)
            refine lv_iconst (v := 3) hx hb dX4_approve_95 (by decide) ?_
            refine lv_goto (tgt := 100) hx hb dX4_approve_96 (by decide) ?_
            refine g_putI (T := TX4) C hP hS 136 0 (by decide) rfl rfl inwX4 tyX4 tyX4_ok nmX4 (by decide) kf_X4_65 rfl rfl (by decide : 0 < 20) (by simp only [sI, va_up_self]; rfl) dX4_approve_100 (fun H locs hP hS => ?_)
            refine lv_iload_n hx hb dX4_approve_103 rfl (lv_at hl 0 rfl) ?_
            refine lv_if_ge (tgt := 109) hx hb dX4_approve_104 (by decide) (fun c => absurd c (by decide)) (fun _ => ?_)
            refine lv_iconst (v := 0) hx hb dX4_approve_107 (by decide) ?_
            exact gM_iret C hr hP hS (by decide) (by decide) dX4_approve_108 (Or.inl (⟨h2_0, h10_0, h23_0, h42_0, h86_0, rfl, rfl, rfl⟩))
          · refine lv_istore_n (lv' := [(3, .int (-1)), (0, .ref (ad 136)), (1, .int x1), (2, .int x2)]) hx hb dX4_approve_89 rfl hl (by decide) rfl (fun ls hl => ?_)
            refine lv_aload_n hx hb dX4_approve_90 rfl (lv_at hl 1 rfl) ?_
            refine lv_iload_n hx hb dX4_approve_91 rfl (lv_at hl 0 rfl) ?_
            refine lv_if_ge (tgt := 99) hx hb dX4_approve_92 (by decide) (fun c => absurd c (by decide)) (fun _ => ?_)
            refine lv_iconst (v := 3) hx hb dX4_approve_95 (by decide) ?_
            refine lv_goto (tgt := 100) hx hb dX4_approve_96 (by decide) ?_
            refine g_putI (T := TX4) C hP hS 136 0 (by decide) rfl rfl inwX4 tyX4 tyX4_ok nmX4 (by decide) kf_X4_65 rfl rfl (by decide : 0 < 20) (by simp only [sI, va_up_self]; rfl) dX4_approve_100 (fun H locs hP hS => ?_)
            refine lv_iload_n hx hb dX4_approve_103 rfl (lv_at hl 0 rfl) ?_
            refine lv_if_ge (tgt := 109) hx hb dX4_approve_104 (by decide) (fun c => absurd c (by decide)) (fun _ => ?_)
            refine lv_iconst (v := 0) hx hb dX4_approve_107 (by decide) ?_
            exact gM_iret C hr hP hS (by decide) (by decide) dX4_approve_108 (Or.inr (Or.inl (⟨h2_0, h10_0, h23_0, h42_0, h86_0, h86_1, rfl, rfl, rfl⟩)))
          · refine lv_istore_n (lv' := [(3, .int (nI ne)), (0, .ref (ad 136)), (1, .int x1), (2, .int x2)]) hx hb dX4_approve_89 rfl hl (by decide) rfl (fun ls hl => ?_)
            refine lv_aload_n hx hb dX4_approve_90 rfl (lv_at hl 1 rfl) ?_
            refine lv_iload_n hx hb dX4_approve_91 rfl (lv_at hl 0 rfl) ?_
            refine lv_if_ge (tgt := 99) hx hb dX4_approve_92 (by decide) (fun c92 => ?_) (fun c92 => absurd (Nat.zero_le _) ((not_congr (nI_leeE (show (0 : Int32) = nI 0 from rfl) rfl (by omega) (by omega))).mp c92))
            have n92 : 0 ≤ ne := (nI_leeE (show (0 : Int32) = nI 0 from rfl) rfl (by omega) (by omega)).mp c92
            refine lv_iconst (v := 0) hx hb dX4_approve_99 (by decide) ?_
            refine g_putI (T := TX4) C hP hS 136 0 (by decide) rfl rfl inwX4 tyX4 tyX4_ok nmX4 (by decide) kf_X4_65 rfl rfl (by decide : 0 < 20) (by simp only [sI, va_up_self]; rfl) dX4_approve_100 (fun H locs hP hS => ?_)
            refine lv_iload_n hx hb dX4_approve_103 rfl (lv_at hl 0 rfl) ?_
            refine lv_if_ge (tgt := 109) hx hb dX4_approve_104 (by decide) (fun c104 => ?_) (fun c104 => absurd (Nat.zero_le _) ((not_congr (nI_leeE (show (0 : Int32) = nI 0 from rfl) rfl (by omega) (by omega))).mp c104))
            have n104 : 0 ≤ ne := (nI_leeE (show (0 : Int32) = nI 0 from rfl) rfl (by omega) (by omega)).mp c104
            refine lv_aload_n hx hb dX4_approve_109 rfl (lv_at hl 1 rfl) ?_
            refine g_get (v := .ref (ad 150)) (T := TX4) C hP 136 16 (by decide) rfl rfl inwX4 (by decide) kf_X4_51 rfl dX4_approve_110 ?_
            refine lv_iload_n hx hb dX4_approve_113 rfl (lv_at hl 3 rfl) ?_
            refine lv_iconst (v := (-1)) hx hb dX4_approve_114 (by decide) ?_
            refine g_iast C hP hS 150 6 (by decide) (fun _ _ => rfl) x2.toNatClampNeg e10_0 (by omega) (by decide) dX4_approve_115 (fun H locs hP hS => ?_)
            refine lv_iload_n hx hb dX4_approve_116 rfl (lv_at hl 0 rfl) ?_
            exact gM_iret C hr hP hS (by decide) (by decide) dX4_approve_117 (Or.inr (Or.inr (Or.inl (⟨h2_0, h10_0, h23_0, h42_0, h86_0, h86_1, h86_2, h86_3, h86_4, n92, n104, rfl, rfl, rfl⟩))))
          · refine lv_istore_n (lv' := [(3, .int (-1)), (0, .ref (ad 136)), (1, .int x1), (2, .int x2)]) hx hb dX4_approve_89 rfl hl (by decide) rfl (fun ls hl => ?_)
            refine lv_aload_n hx hb dX4_approve_90 rfl (lv_at hl 1 rfl) ?_
            refine lv_iload_n hx hb dX4_approve_91 rfl (lv_at hl 0 rfl) ?_
            refine lv_if_ge (tgt := 99) hx hb dX4_approve_92 (by decide) (fun c => absurd c (by decide)) (fun _ => ?_)
            refine lv_iconst (v := 3) hx hb dX4_approve_95 (by decide) ?_
            refine lv_goto (tgt := 100) hx hb dX4_approve_96 (by decide) ?_
            refine g_putI (T := TX4) C hP hS 136 0 (by decide) rfl rfl inwX4 tyX4 tyX4_ok nmX4 (by decide) kf_X4_65 rfl rfl (by decide : 0 < 20) (by simp only [sI, va_up_self]; rfl) dX4_approve_100 (fun H locs hP hS => ?_)
            refine lv_iload_n hx hb dX4_approve_103 rfl (lv_at hl 0 rfl) ?_
            refine lv_if_ge (tgt := 109) hx hb dX4_approve_104 (by decide) (fun c => absurd c (by decide)) (fun _ => ?_)
            refine lv_iconst (v := 0) hx hb dX4_approve_107 (by decide) ?_
            exact gM_iret C hr hP hS (by decide) (by decide) dX4_approve_108 (Or.inr (Or.inr (Or.inr (Or.inl (⟨h2_0, h10_0, h23_0, h42_0, h86_0, h86_1, h86_2, h86_3, rfl, rfl, rfl⟩)))))
          · exact absurd (by decide) h86_4
          · exact absurd (by decide) h86_2
        · refine lv_if_ne (tgt := 52) hx hb dX4_approve_45 (by decide) (fun c => absurd c (by decide)) (fun _ => ?_)
          refine lv_iconst (v := 2) hx hb dX4_approve_48 (by decide) ?_
          refine lv_goto (tgt := 53) hx hb dX4_approve_49 (by decide) ?_
          refine g_putI (T := TX4) C hP hS 136 0 (by decide) rfl rfl inwX4 tyX4 tyX4_ok nmX4 (by decide) kf_X4_65 rfl rfl (by decide : 0 < 20) (by simp only [sI, va_up_self]; rfl) dX4_approve_53 (fun H locs hP hS => ?_)
          refine lv_aload_n hx hb dX4_approve_56 rfl (lv_at hl 0 rfl) ?_
          refine g_get (v := .int 2) (T := TX4) C hP 136 0 (by decide) rfl rfl inwX4 (by decide) kf_X4_65 (congrArg (fun z => some (Value.int z)) sI_eq) dX4_approve_57 ?_
          refine lv_if_le (tgt := 65) hx hb dX4_approve_60 (by decide) (fun c => absurd c (by decide)) (fun _ => ?_)
          refine lv_iconst (v := 0) hx hb dX4_approve_63 (by decide) ?_
          exact gM_iret C hr hP hS (by decide) (by decide) dX4_approve_64 (Or.inr (Or.inr (Or.inr (Or.inr (Or.inl (⟨h2_0, h10_0, h23_0, h42_0, rfl, rfl, rfl⟩))))))
      · refine lv_if_eq (tgt := 48) hx hb dX4_approve_26 (by decide) (fun _ => ?_) (fun c => absurd c (by decide))
        refine lv_iconst (v := 2) hx hb dX4_approve_48 (by decide) ?_
        refine lv_goto (tgt := 53) hx hb dX4_approve_49 (by decide) ?_
        refine g_putI (T := TX4) C hP hS 136 0 (by decide) rfl rfl inwX4 tyX4 tyX4_ok nmX4 (by decide) kf_X4_65 rfl rfl (by decide : 0 < 20) (by simp only [sI, va_up_self]; rfl) dX4_approve_53 (fun H locs hP hS => ?_)
        refine lv_aload_n hx hb dX4_approve_56 rfl (lv_at hl 0 rfl) ?_
        refine g_get (v := .int 2) (T := TX4) C hP 136 0 (by decide) rfl rfl inwX4 (by decide) kf_X4_65 (congrArg (fun z => some (Value.int z)) sI_eq) dX4_approve_57 ?_
        refine lv_if_le (tgt := 65) hx hb dX4_approve_60 (by decide) (fun c => absurd c (by decide)) (fun _ => ?_)
        refine lv_iconst (v := 0) hx hb dX4_approve_63 (by decide) ?_
        exact gM_iret C hr hP hS (by decide) (by decide) dX4_approve_64 (Or.inr (Or.inr (Or.inr (Or.inr (Or.inr (Or.inl (⟨h2_0, h10_0, h23_0, rfl, rfl, rfl⟩)))))))
    · refine lv_if_ne (tgt := 20) hx hb dX4_approve_13 (by decide) (fun c => absurd c (by decide)) (fun _ => ?_)
      refine lv_iconst (v := 1) hx hb dX4_approve_16 (by decide) ?_
      refine lv_goto (tgt := 53) hx hb dX4_approve_17 (by decide) ?_
      refine g_putI (T := TX4) C hP hS 136 0 (by decide) rfl rfl inwX4 tyX4 tyX4_ok nmX4 (by decide) kf_X4_65 rfl rfl (by decide : 0 < 20) (by simp only [sI, va_up_self]; rfl) dX4_approve_53 (fun H locs hP hS => ?_)
      refine lv_aload_n hx hb dX4_approve_56 rfl (lv_at hl 0 rfl) ?_
      refine g_get (v := .int 1) (T := TX4) C hP 136 0 (by decide) rfl rfl inwX4 (by decide) kf_X4_65 (congrArg (fun z => some (Value.int z)) sI_eq) dX4_approve_57 ?_
      refine lv_if_le (tgt := 65) hx hb dX4_approve_60 (by decide) (fun c => absurd c (by decide)) (fun _ => ?_)
      refine lv_iconst (v := 0) hx hb dX4_approve_63 (by decide) ?_
      exact gM_iret C hr hP hS (by decide) (by decide) dX4_approve_64 (Or.inr (Or.inr (Or.inr (Or.inr (Or.inr (Or.inr (Or.inl (⟨h2_0, h10_0, rfl, rfl, rfl⟩))))))))
  · refine lv_if_eq (tgt := 16) hx hb dX4_approve_5 (by decide) (fun _ => ?_) (fun c => absurd c (by decide))
    refine lv_iconst (v := 1) hx hb dX4_approve_16 (by decide) ?_
    refine lv_goto (tgt := 53) hx hb dX4_approve_17 (by decide) ?_
    refine g_putI (T := TX4) C hP hS 136 0 (by decide) rfl rfl inwX4 tyX4 tyX4_ok nmX4 (by decide) kf_X4_65 rfl rfl (by decide : 0 < 20) (by simp only [sI, va_up_self]; rfl) dX4_approve_53 (fun H locs hP hS => ?_)
    refine lv_aload_n hx hb dX4_approve_56 rfl (lv_at hl 0 rfl) ?_
    refine g_get (v := .int 1) (T := TX4) C hP 136 0 (by decide) rfl rfl inwX4 (by decide) kf_X4_65 (congrArg (fun z => some (Value.int z)) sI_eq) dX4_approve_57 ?_
    refine lv_if_le (tgt := 65) hx hb dX4_approve_60 (by decide) (fun c => absurd c (by decide)) (fun _ => ?_)
    refine lv_iconst (v := 0) hx hb dX4_approve_63 (by decide) ?_
    exact gM_iret C hr hP hS (by decide) (by decide) dX4_approve_64 (Or.inr (Or.inr (Or.inr (Or.inr (Or.inr (Or.inr (Or.inr (⟨h2_0, rfl, rfl, rfl⟩))))))))
def pq_X4_withdraw (np : Nat) (x1 : Int32) (x2 : Int32) (I : MI) (L : ML) : MI → ML → Prop := fun I' L' => (vp_in x1 8 ∧ (vp_in x2 6 ∧ ¬ I 150 x2.toNatClampNeg < 0) ∧ ((I 150 x2.toNatClampNeg).toNatClampNeg) = x1.toNatClampNeg ∧ (sI (sI I 136 0 0) 150 x2.toNatClampNeg (-1)) = I' ∧ L = L') ∨ (vp_in x1 8 ∧ (vp_in x2 6 ∧ ¬ I 150 x2.toNatClampNeg < 0) ∧ ¬ ((I 150 x2.toNatClampNeg).toNatClampNeg) = x1.toNatClampNeg ∧ (gMM I x1 x1.toNatClampNeg (I 151 x2.toNatClampNeg).toNatClampNeg ∧ ¬ I 150 x2.toNatClampNeg = x1) ∧ (sI (sI I 136 0 0) 150 x2.toNatClampNeg (-1)) = I' ∧ L = L') ∨ (vp_in x1 8 ∧ (vp_in x2 6 ∧ ¬ I 150 x2.toNatClampNeg < 0) ∧ ¬ ((I 150 x2.toNatClampNeg).toNatClampNeg) = x1.toNatClampNeg ∧ (¬ (gMM I x1 x1.toNatClampNeg (I 151 x2.toNatClampNeg).toNatClampNeg ∧ ¬ I 150 x2.toNatClampNeg = x1)) ∧ (sI I 136 0 2) = I' ∧ L = L') ∨ (vp_in x1 8 ∧ (¬ (vp_in x2 6 ∧ ¬ I 150 x2.toNatClampNeg < 0)) ∧ (sI I 136 0 1) = I' ∧ L = L') ∨ (¬ vp_in x1 8 ∧ (sI I 136 0 1) = I' ∧ L = L')
set_option maxRecDepth 100000 in
set_option maxHeartbeats 4000000 in
theorem ct_X4_withdraw (l : Launch) (D : va_G) (cy : Nat → ClassId) (ad : Nat → Nat) (hJ : gJ ad) (np : Nat) (x1 : Int32) (x2 : Int32) (I : MI) (L : ML) (hmp : I 136 3 = nI np) (hmp10 : np ≤ 10) (hmw : ∀ q, q < 6 → ¬ I 150 q < 0 → vp_in (I 150 q) 8 ∧ vp_in (I 151 q) np) : gMv l D cy ad yX4_withdraw cX4_withdraw 3 (gR 1 0 0) [.ref (ad 136), .int x1, .int x2] I L (pq_X4_withdraw np x1 x2 I L) := by
  refine gMv_of hJ (by decide +kernel) kc_X4_withdraw (Nat.le_of_ble_eq_true rfl) (fun p e s m below meth c A ls C hr hP hS hl => ?_)
  have hx := C.hx
  have hb := C.hb
  have hl : lv_has ls 3 [(0, .ref (ad 136)), (1, .int x1), (2, .int x2)] := hl
  refine lv_aload_n hx hb dX4_withdraw_0 rfl (lv_at hl 0 rfl) ?_
  refine lv_iload_n hx hb dX4_withdraw_1 rfl (lv_at hl 1 rfl) ?_
  refine gM_callSi (As := [.int x1]) (rest := [.ref (ad 136)]) C hP hS hl.1 (ct_X4_isOne l D cy ad hJ x1 I L) fa_X4_isOne kl_X4_72 kst_X4_isOne rfl (by decide) (Nat.le_of_ble_eq_true rfl) (by decide) dX4_withdraw_2 rfl (fun r2 I2 L2 H locs hq hP hS => ?_)
  rcases hq with ⟨h2_0, rfl, rfl, rfl⟩ | ⟨h2_0, rfl, rfl, rfl⟩
  · obtain ⟨e2_0, l2_0⟩ := vp_ix h2_0
    refine lv_if_eq (tgt := 16) hx hb dX4_withdraw_5 (by decide) (fun c => absurd c (by decide)) (fun _ => ?_)
    refine lv_aload_n hx hb dX4_withdraw_8 rfl (lv_at hl 0 rfl) ?_
    refine lv_iload_n hx hb dX4_withdraw_9 rfl (lv_at hl 2 rfl) ?_
    refine gM_callVi (As := [.int x2]) (rest := [.ref (ad 136)]) C hP hS hl.1 (ct_X4_isRequest l D cy ad hJ x2 I L) fa_X4_isRequest kl_X4_137 ki_X4_isRequest kse_X4_isRequest (by decide) (T := TX4) rfl rfl rfl (by decide) (Nat.le_of_ble_eq_true rfl) (by decide) dX4_withdraw_10 rfl (fun r10 I10 L10 H locs hq hP hS => ?_)
    rcases hq with ⟨h10_0, rfl, rfl, rfl⟩ | ⟨h10_0, rfl, rfl, rfl⟩
    · obtain ⟨e10_0, l10_0⟩ := vp_ix h10_0.1
      have hw9 := hmw x2.toNatClampNeg (by omega) h10_0.2
      obtain ⟨ew1, lw1⟩ := vp_ix hw9.1
      obtain ⟨ew2, lw2⟩ := vp_ix hw9.2
      refine lv_if_ne (tgt := 20) hx hb dX4_withdraw_13 (by decide) (fun _ => ?_) (fun c => absurd c (by decide))
      refine lv_aload_n hx hb dX4_withdraw_20 rfl (lv_at hl 0 rfl) ?_
      refine g_get (v := .ref (ad 150)) (T := TX4) C hP 136 16 (by decide) rfl rfl inwX4 (by decide) kf_X4_51 rfl dX4_withdraw_21 ?_
      refine lv_iload_n hx hb dX4_withdraw_24 rfl (lv_at hl 2 rfl) ?_
      refine g_iald (v := I 150 x2.toNatClampNeg) C hP 150 6 (by decide) (fun _ _ => rfl) x2.toNatClampNeg e10_0 rfl (by omega) (by decide) dX4_withdraw_25 ?_
      refine lv_iload_n hx hb dX4_withdraw_26 rfl (lv_at hl 1 rfl) ?_
      refine lv_icmp_eq (tgt := 43) hx hb dX4_withdraw_27 (by decide) (fun c27 => ?_) (fun c27 => ?_)
      · have n27 : ((I 150 x2.toNatClampNeg).toNatClampNeg) = x1.toNatClampNeg := (nI_eqqE ew1 e2_0 (by omega) (by omega)).mp c27
        refine lv_iconst (v := 0) hx hb dX4_withdraw_43 (by decide) ?_
        refine g_putI (T := TX4) C hP hS 136 0 (by decide) rfl rfl inwX4 tyX4 tyX4_ok nmX4 (by decide) kf_X4_65 rfl rfl (by decide : 0 < 20) (by simp only [sI, va_up_self]; rfl) dX4_withdraw_44 (fun H locs hP hS => ?_)
        refine lv_aload_n hx hb dX4_withdraw_47 rfl (lv_at hl 0 rfl) ?_
        refine g_get (v := .int 0) (T := TX4) C hP 136 0 (by decide) rfl rfl inwX4 (by decide) kf_X4_65 (congrArg (fun z => some (Value.int z)) sI_eq) dX4_withdraw_48 ?_
        refine lv_if_ne (tgt := 61) hx hb dX4_withdraw_51 (by decide) (fun c => absurd c (by decide)) (fun _ => ?_)
        refine lv_aload_n hx hb dX4_withdraw_54 rfl (lv_at hl 0 rfl) ?_
        refine g_get (v := .ref (ad 150)) (T := TX4) C hP 136 16 (by decide) rfl rfl inwX4 (by decide) kf_X4_51 rfl dX4_withdraw_55 ?_
        refine lv_iload_n hx hb dX4_withdraw_58 rfl (lv_at hl 2 rfl) ?_
        refine lv_iconst (v := (-1)) hx hb dX4_withdraw_59 (by decide) ?_
        refine g_iast C hP hS 150 6 (by decide) (fun _ _ => rfl) x2.toNatClampNeg e10_0 (by omega) (by decide) dX4_withdraw_60 (fun H locs hP hS => ?_)
        exact gM_vret C hr hP hS (by decide) (by decide) dX4_withdraw_61 (Or.inl (⟨h2_0, h10_0, n27, rfl, rfl⟩))
      · have n27 : ¬ ((I 150 x2.toNatClampNeg).toNatClampNeg) = x1.toNatClampNeg := (not_congr (nI_eqqE ew1 e2_0 (by omega) (by omega))).mp c27
        refine lv_aload_n hx hb dX4_withdraw_30 rfl (lv_at hl 0 rfl) ?_
        refine lv_iload_n hx hb dX4_withdraw_31 rfl (lv_at hl 1 rfl) ?_
        refine lv_iload_n hx hb dX4_withdraw_32 rfl (lv_at hl 2 rfl) ?_
        refine gM_callVi (As := [.int x1, .int x2]) (rest := [.ref (ad 136)]) C hP hS hl.1 (ct_X4_mayApprove l D cy ad hJ x1.toNatClampNeg x2.toNatClampNeg x1 x2 I L e2_0 (by omega) e10_0 (by omega) (vp_mono hw9.2 (by omega))) fa_X4_mayApprove kl_X4_140 ki_X4_mayApprove kse_X4_mayApprove (by decide) (T := TX4) rfl rfl rfl (by decide) (Nat.le_of_ble_eq_true rfl) (by decide) dX4_withdraw_33 rfl (fun r33 I33 L33 H locs hq hP hS => ?_)
        rcases hq with ⟨h33_0, rfl, rfl, rfl⟩ | ⟨h33_0, rfl, rfl, rfl⟩
        · refine lv_if_ne (tgt := 43) hx hb dX4_withdraw_36 (by decide) (fun _ => ?_) (fun c => absurd c (by decide))
          refine lv_iconst (v := 0) hx hb dX4_withdraw_43 (by decide) ?_
          refine g_putI (T := TX4) C hP hS 136 0 (by decide) rfl rfl inwX4 tyX4 tyX4_ok nmX4 (by decide) kf_X4_65 rfl rfl (by decide : 0 < 20) (by simp only [sI, va_up_self]; rfl) dX4_withdraw_44 (fun H locs hP hS => ?_)
          refine lv_aload_n hx hb dX4_withdraw_47 rfl (lv_at hl 0 rfl) ?_
          refine g_get (v := .int 0) (T := TX4) C hP 136 0 (by decide) rfl rfl inwX4 (by decide) kf_X4_65 (congrArg (fun z => some (Value.int z)) sI_eq) dX4_withdraw_48 ?_
          refine lv_if_ne (tgt := 61) hx hb dX4_withdraw_51 (by decide) (fun c => absurd c (by decide)) (fun _ => ?_)
          refine lv_aload_n hx hb dX4_withdraw_54 rfl (lv_at hl 0 rfl) ?_
          refine g_get (v := .ref (ad 150)) (T := TX4) C hP 136 16 (by decide) rfl rfl inwX4 (by decide) kf_X4_51 rfl dX4_withdraw_55 ?_
          refine lv_iload_n hx hb dX4_withdraw_58 rfl (lv_at hl 2 rfl) ?_
          refine lv_iconst (v := (-1)) hx hb dX4_withdraw_59 (by decide) ?_
          refine g_iast C hP hS 150 6 (by decide) (fun _ _ => rfl) x2.toNatClampNeg e10_0 (by omega) (by decide) dX4_withdraw_60 (fun H locs hP hS => ?_)
          exact gM_vret C hr hP hS (by decide) (by decide) dX4_withdraw_61 (Or.inr (Or.inl (⟨h2_0, h10_0, n27, h33_0, rfl, rfl⟩)))
        · refine lv_if_ne (tgt := 43) hx hb dX4_withdraw_36 (by decide) (fun c => absurd c (by decide)) (fun _ => ?_)
          refine lv_iconst (v := 2) hx hb dX4_withdraw_39 (by decide) ?_
          refine lv_goto (tgt := 44) hx hb dX4_withdraw_40 (by decide) ?_
          refine g_putI (T := TX4) C hP hS 136 0 (by decide) rfl rfl inwX4 tyX4 tyX4_ok nmX4 (by decide) kf_X4_65 rfl rfl (by decide : 0 < 20) (by simp only [sI, va_up_self]; rfl) dX4_withdraw_44 (fun H locs hP hS => ?_)
          refine lv_aload_n hx hb dX4_withdraw_47 rfl (lv_at hl 0 rfl) ?_
          refine g_get (v := .int 2) (T := TX4) C hP 136 0 (by decide) rfl rfl inwX4 (by decide) kf_X4_65 (congrArg (fun z => some (Value.int z)) sI_eq) dX4_withdraw_48 ?_
          refine lv_if_ne (tgt := 61) hx hb dX4_withdraw_51 (by decide) (fun _ => ?_) (fun c => absurd c (by decide))
          exact gM_vret C hr hP hS (by decide) (by decide) dX4_withdraw_61 (Or.inr (Or.inr (Or.inl (⟨h2_0, h10_0, n27, h33_0, rfl, rfl⟩))))
    · refine lv_if_ne (tgt := 20) hx hb dX4_withdraw_13 (by decide) (fun c => absurd c (by decide)) (fun _ => ?_)
      refine lv_iconst (v := 1) hx hb dX4_withdraw_16 (by decide) ?_
      refine lv_goto (tgt := 44) hx hb dX4_withdraw_17 (by decide) ?_
      refine g_putI (T := TX4) C hP hS 136 0 (by decide) rfl rfl inwX4 tyX4 tyX4_ok nmX4 (by decide) kf_X4_65 rfl rfl (by decide : 0 < 20) (by simp only [sI, va_up_self]; rfl) dX4_withdraw_44 (fun H locs hP hS => ?_)
      refine lv_aload_n hx hb dX4_withdraw_47 rfl (lv_at hl 0 rfl) ?_
      refine g_get (v := .int 1) (T := TX4) C hP 136 0 (by decide) rfl rfl inwX4 (by decide) kf_X4_65 (congrArg (fun z => some (Value.int z)) sI_eq) dX4_withdraw_48 ?_
      refine lv_if_ne (tgt := 61) hx hb dX4_withdraw_51 (by decide) (fun _ => ?_) (fun c => absurd c (by decide))
      exact gM_vret C hr hP hS (by decide) (by decide) dX4_withdraw_61 (Or.inr (Or.inr (Or.inr (Or.inl (⟨h2_0, h10_0, rfl, rfl⟩)))))
  · refine lv_if_eq (tgt := 16) hx hb dX4_withdraw_5 (by decide) (fun _ => ?_) (fun c => absurd c (by decide))
    refine lv_iconst (v := 1) hx hb dX4_withdraw_16 (by decide) ?_
    refine lv_goto (tgt := 44) hx hb dX4_withdraw_17 (by decide) ?_
    refine g_putI (T := TX4) C hP hS 136 0 (by decide) rfl rfl inwX4 tyX4 tyX4_ok nmX4 (by decide) kf_X4_65 rfl rfl (by decide : 0 < 20) (by simp only [sI, va_up_self]; rfl) dX4_withdraw_44 (fun H locs hP hS => ?_)
    refine lv_aload_n hx hb dX4_withdraw_47 rfl (lv_at hl 0 rfl) ?_
    refine g_get (v := .int 1) (T := TX4) C hP 136 0 (by decide) rfl rfl inwX4 (by decide) kf_X4_65 (congrArg (fun z => some (Value.int z)) sI_eq) dX4_withdraw_48 ?_
    refine lv_if_ne (tgt := 61) hx hb dX4_withdraw_51 (by decide) (fun _ => ?_) (fun c => absurd c (by decide))
    exact gM_vret C hr hP hS (by decide) (by decide) dX4_withdraw_61 (Or.inr (Or.inr (Or.inr (Or.inr (⟨h2_0, rfl, rfl⟩)))))
def pq_X4_reverse (np : Nat) (ne : Nat) (lc : Nat → Nat) (x1 : Int32) (x2 : Int32) (I : MI) (L : ML) : Int32 → MI → ML → Prop := fun r I' L' => (vp_in x1 8 ∧ vp_in x2 ne ∧ gMM I x1 x1.toNatClampNeg ((I 144 x2.toNatClampNeg).toNatClampNeg) ∧ ¬ (I 146 x2.toNatClampNeg) = x1 ∧ 0 ≤ (I 148 x2.toNatClampNeg) ∧ (0 : Int32) = r ∧ (sI I 136 0 3) = I' ∧ L = L') ∨ (vp_in x1 8 ∧ vp_in x2 ne ∧ gMM I x1 x1.toNatClampNeg ((I 144 x2.toNatClampNeg).toNatClampNeg) ∧ ¬ (I 146 x2.toNatClampNeg) = x1 ∧ ¬ 0 ≤ (I 148 x2.toNatClampNeg) ∧ (I 149 x2.toNatClampNeg) < 0 ∧ (gz (L 137) (glf (sI I 136 0 0) lc (L 145) ne) 8) = 0 ∧ (0 : Int32) = r ∧ (sI (sI I 136 0 0) 136 0 3) = I' ∧ (gSS (sI I 136 0 0) lc L ne 8) = L') ∨ (vp_in x1 8 ∧ vp_in x2 ne ∧ gMM I x1 x1.toNatClampNeg ((I 144 x2.toNatClampNeg).toNatClampNeg) ∧ ¬ (I 146 x2.toNatClampNeg) = x1 ∧ ¬ 0 ≤ (I 148 x2.toNatClampNeg) ∧ (I 149 x2.toNatClampNeg) < 0 ∧ ¬ (gz (L 137) (glf (sI I 136 0 0) lc (L 145) ne) 8) = 0 ∧ ne = 40 ∧ (0 : Int32) = r ∧ (sI (sI I 136 0 0) 136 0 3) = I' ∧ (gSS (sI I 136 0 0) lc L ne 8) = L') ∨ (vp_in x1 8 ∧ vp_in x2 ne ∧ gMM I x1 x1.toNatClampNeg ((I 144 x2.toNatClampNeg).toNatClampNeg) ∧ ¬ (I 146 x2.toNatClampNeg) = x1 ∧ ¬ 0 ≤ (I 148 x2.toNatClampNeg) ∧ (I 149 x2.toNatClampNeg) < 0 ∧ ¬ (gz (L 137) (glf (sI I 136 0 0) lc (L 145) ne) 8) = 0 ∧ ¬ ne = 40 ∧ x2 < 0 ∧ (∀ k, k < (lc ((I 144 x2.toNatClampNeg).toNatClampNeg)) → ¬ gfl (gmA (sI I 136 0 0) ((I 144 x2.toNatClampNeg).toNatClampNeg)) ((gSS (sI I 136 0 0) lc L ne 8) 137) ((gSS (sI I 136 0 0) lc L ne 8) 138) (fun k => 1 * gpw (L 145 x2.toNatClampNeg) (gmS (sI I 136 0 0) ((I 144 x2.toNatClampNeg).toNatClampNeg)) (lc ((I 144 x2.toNatClampNeg).toNatClampNeg)) ((gSS (sI I 136 0 0) lc L ne 8) 153) k) k) ∧ x2 < 0 ∧ 0 ≤ ne ∧ 0 ≤ ne ∧ nI ne = r ∧ (sI (sI (sI (sI (sI (sI (sI (sI I 136 0 0) 144 ne (I 144 x2.toNatClampNeg)) 146 ne x1) 147 ne (-1 : Int32)) 148 ne x2) 149 ne (-1)) 136 9 ((nI ne) + 1)) 136 0 0) = I' ∧ (sL (gRM (va_up (gSS (sI I 136 0 0) lc L ne 8) 153 (gpw (L 145 x2.toNatClampNeg) (gmS (sI I 136 0 0) ((I 144 x2.toNatClampNeg).toNatClampNeg)) (lc ((I 144 x2.toNatClampNeg).toNatClampNeg)) ((gSS (sI I 136 0 0) lc L ne 8) 153))) (gmA (sI I 136 0 0) ((I 144 x2.toNatClampNeg).toNatClampNeg)) (fun k => 1 * gpw (L 145 x2.toNatClampNeg) (gmS (sI I 136 0 0) ((I 144 x2.toNatClampNeg).toNatClampNeg)) (lc ((I 144 x2.toNatClampNeg).toNatClampNeg)) ((gSS (sI I 136 0 0) lc L ne 8) 153) k) (lc ((I 144 x2.toNatClampNeg).toNatClampNeg))) 145 ne (L 145 x2.toNatClampNeg)) = L') ∨ (vp_in x1 8 ∧ vp_in x2 ne ∧ gMM I x1 x1.toNatClampNeg ((I 144 x2.toNatClampNeg).toNatClampNeg) ∧ ¬ (I 146 x2.toNatClampNeg) = x1 ∧ ¬ 0 ≤ (I 148 x2.toNatClampNeg) ∧ (I 149 x2.toNatClampNeg) < 0 ∧ ¬ (gz (L 137) (glf (sI I 136 0 0) lc (L 145) ne) 8) = 0 ∧ ¬ ne = 40 ∧ x2 < 0 ∧ (¬ (∀ k, k < (lc ((I 144 x2.toNatClampNeg).toNatClampNeg)) → ¬ gfl (gmA (sI I 136 0 0) ((I 144 x2.toNatClampNeg).toNatClampNeg)) ((gSS (sI I 136 0 0) lc L ne 8) 137) ((gSS (sI I 136 0 0) lc L ne 8) 138) (fun k => 1 * gpw (L 145 x2.toNatClampNeg) (gmS (sI I 136 0 0) ((I 144 x2.toNatClampNeg).toNatClampNeg)) (lc ((I 144 x2.toNatClampNeg).toNatClampNeg)) ((gSS (sI I 136 0 0) lc L ne 8) 153) k) k)) ∧ (0 : Int32) = r ∧ (sI (sI I 136 0 0) 136 0 3) = I' ∧ (va_up (gSS (sI I 136 0 0) lc L ne 8) 153 (gpw (L 145 x2.toNatClampNeg) (gmS (sI I 136 0 0) ((I 144 x2.toNatClampNeg).toNatClampNeg)) (lc ((I 144 x2.toNatClampNeg).toNatClampNeg)) ((gSS (sI I 136 0 0) lc L ne 8) 153))) = L') ∨ (vp_in x1 8 ∧ vp_in x2 ne ∧ gMM I x1 x1.toNatClampNeg ((I 144 x2.toNatClampNeg).toNatClampNeg) ∧ ¬ (I 146 x2.toNatClampNeg) = x1 ∧ ¬ 0 ≤ (I 148 x2.toNatClampNeg) ∧ (I 149 x2.toNatClampNeg) < 0 ∧ ¬ (gz (L 137) (glf (sI I 136 0 0) lc (L 145) ne) 8) = 0 ∧ ¬ ne = 40 ∧ ¬ x2 < 0 ∧ (∀ k, k < (lc ((I 144 x2.toNatClampNeg).toNatClampNeg)) → ¬ gfl (gmA (sI I 136 0 0) ((I 144 x2.toNatClampNeg).toNatClampNeg)) ((gSS (sI I 136 0 0) lc L ne 8) 137) ((gSS (sI I 136 0 0) lc L ne 8) 138) (fun k => (-1 : Int64) * gpw (L 145 x2.toNatClampNeg) (gmS (sI I 136 0 0) ((I 144 x2.toNatClampNeg).toNatClampNeg)) (lc ((I 144 x2.toNatClampNeg).toNatClampNeg)) ((gSS (sI I 136 0 0) lc L ne 8) 153) k) k) ∧ ¬ x2 < 0 ∧ 0 ≤ ne ∧ 0 ≤ ne ∧ nI ne = r ∧ (sI (sI (sI (sI (sI (sI (sI (sI (sI I 136 0 0) 144 ne (I 144 x2.toNatClampNeg)) 146 ne x1) 147 ne (-1 : Int32)) 148 ne x2) 149 ne (-1)) 149 x2.toNatClampNeg (nI ne)) 136 9 ((nI ne) + 1)) 136 0 0) = I' ∧ (sL (gRM (va_up (gSS (sI I 136 0 0) lc L ne 8) 153 (gpw (L 145 x2.toNatClampNeg) (gmS (sI I 136 0 0) ((I 144 x2.toNatClampNeg).toNatClampNeg)) (lc ((I 144 x2.toNatClampNeg).toNatClampNeg)) ((gSS (sI I 136 0 0) lc L ne 8) 153))) (gmA (sI I 136 0 0) ((I 144 x2.toNatClampNeg).toNatClampNeg)) (fun k => (-1 : Int64) * gpw (L 145 x2.toNatClampNeg) (gmS (sI I 136 0 0) ((I 144 x2.toNatClampNeg).toNatClampNeg)) (lc ((I 144 x2.toNatClampNeg).toNatClampNeg)) ((gSS (sI I 136 0 0) lc L ne 8) 153) k) (lc ((I 144 x2.toNatClampNeg).toNatClampNeg))) 145 ne (L 145 x2.toNatClampNeg)) = L') ∨ (vp_in x1 8 ∧ vp_in x2 ne ∧ gMM I x1 x1.toNatClampNeg ((I 144 x2.toNatClampNeg).toNatClampNeg) ∧ ¬ (I 146 x2.toNatClampNeg) = x1 ∧ ¬ 0 ≤ (I 148 x2.toNatClampNeg) ∧ (I 149 x2.toNatClampNeg) < 0 ∧ ¬ (gz (L 137) (glf (sI I 136 0 0) lc (L 145) ne) 8) = 0 ∧ ¬ ne = 40 ∧ ¬ x2 < 0 ∧ (¬ (∀ k, k < (lc ((I 144 x2.toNatClampNeg).toNatClampNeg)) → ¬ gfl (gmA (sI I 136 0 0) ((I 144 x2.toNatClampNeg).toNatClampNeg)) ((gSS (sI I 136 0 0) lc L ne 8) 137) ((gSS (sI I 136 0 0) lc L ne 8) 138) (fun k => (-1 : Int64) * gpw (L 145 x2.toNatClampNeg) (gmS (sI I 136 0 0) ((I 144 x2.toNatClampNeg).toNatClampNeg)) (lc ((I 144 x2.toNatClampNeg).toNatClampNeg)) ((gSS (sI I 136 0 0) lc L ne 8) 153) k) k)) ∧ (0 : Int32) = r ∧ (sI (sI I 136 0 0) 136 0 3) = I' ∧ (va_up (gSS (sI I 136 0 0) lc L ne 8) 153 (gpw (L 145 x2.toNatClampNeg) (gmS (sI I 136 0 0) ((I 144 x2.toNatClampNeg).toNatClampNeg)) (lc ((I 144 x2.toNatClampNeg).toNatClampNeg)) ((gSS (sI I 136 0 0) lc L ne 8) 153))) = L') ∨ (vp_in x1 8 ∧ vp_in x2 ne ∧ gMM I x1 x1.toNatClampNeg ((I 144 x2.toNatClampNeg).toNatClampNeg) ∧ ¬ (I 146 x2.toNatClampNeg) = x1 ∧ ¬ 0 ≤ (I 148 x2.toNatClampNeg) ∧ ¬ (I 149 x2.toNatClampNeg) < 0 ∧ (0 : Int32) = r ∧ (sI I 136 0 3) = I' ∧ L = L') ∨ (vp_in x1 8 ∧ vp_in x2 ne ∧ gMM I x1 x1.toNatClampNeg ((I 144 x2.toNatClampNeg).toNatClampNeg) ∧ (I 146 x2.toNatClampNeg) = x1 ∧ (0 : Int32) = r ∧ (sI I 136 0 2) = I' ∧ L = L') ∨ (vp_in x1 8 ∧ vp_in x2 ne ∧ ¬ gMM I x1 x1.toNatClampNeg ((I 144 x2.toNatClampNeg).toNatClampNeg) ∧ (0 : Int32) = r ∧ (sI I 136 0 2) = I' ∧ L = L') ∨ (vp_in x1 8 ∧ ¬ vp_in x2 ne ∧ (0 : Int32) = r ∧ (sI I 136 0 1) = I' ∧ L = L') ∨ (¬ vp_in x1 8 ∧ (0 : Int32) = r ∧ (sI I 136 0 1) = I' ∧ L = L')
set_option maxRecDepth 100000 in
set_option maxHeartbeats 4000000 in
theorem ct_X4_reverse (l : Launch) (D : va_G) (cy : Nat → ClassId) (ad : Nat → Nat) (hJ : gJ ad) (np : Nat) (ne : Nat) (lc : Nat → Nat) (x1 : Int32) (x2 : Int32) (I : MI) (L : ML) (hmp : I 136 3 = nI np) (hmp10 : np ≤ 10) (hme : I 136 9 = nI ne) (hme40 : ne ≤ 40) (hml : ∀ p, p < 10 → I 139 p = nI (lc p)) (hml4 : ∀ p, p < 10 → lc p ≤ 4) (hma : ∀ p, p < 10 → ∀ k, k < lc p → vp_in (I 141 (4 * p + k)) 8) (hmr : ∀ e, e < ne → vp_in (I 144 e) 10) (hmd : ∀ p, p < 10 → gdis (gmA I p) (lc p)) (hmq : ∀ e, e < ne → vp_in (I 144 e) np) : gMi l D cy ad yX4_reverse cX4_reverse 4 .int (gR 1 0 0) [.ref (ad 136), .int x1, .int x2] I L (pq_X4_reverse np ne lc x1 x2 I L) := by
  refine gMi_of hJ (by decide +kernel) kc_X4_reverse (Nat.le_of_ble_eq_true rfl) (fun p e s m below meth c A ls C hr hP hS hl => ?_)
  have hx := C.hx
  have hb := C.hb
  have hl : lv_has ls 4 [(0, .ref (ad 136)), (1, .int x1), (2, .int x2)] := hl
  refine lv_aload_n hx hb dX4_reverse_0 rfl (lv_at hl 0 rfl) ?_
  refine lv_iload_n hx hb dX4_reverse_1 rfl (lv_at hl 1 rfl) ?_
  refine gM_callSi (As := [.int x1]) (rest := [.ref (ad 136)]) C hP hS hl.1 (ct_X4_isOne l D cy ad hJ x1 I L) fa_X4_isOne kl_X4_72 kst_X4_isOne rfl (by decide) (Nat.le_of_ble_eq_true rfl) (by decide) dX4_reverse_2 rfl (fun r2 I2 L2 H locs hq hP hS => ?_)
  rcases hq with ⟨h2_0, rfl, rfl, rfl⟩ | ⟨h2_0, rfl, rfl, rfl⟩
  · obtain ⟨e2_0, l2_0⟩ := vp_ix h2_0
    refine lv_if_eq (tgt := 16) hx hb dX4_reverse_5 (by decide) (fun c => absurd c (by decide)) (fun _ => ?_)
    refine lv_aload_n hx hb dX4_reverse_8 rfl (lv_at hl 0 rfl) ?_
    refine lv_iload_n hx hb dX4_reverse_9 rfl (lv_at hl 2 rfl) ?_
    refine gM_callVi (As := [.int x2]) (rest := [.ref (ad 136)]) C hP hS hl.1 (ct_X4_isEntry l D cy ad hJ ne x2 I L hme hme40) fa_X4_isEntry kl_X4_143 ki_X4_isEntry kse_X4_isEntry (by decide) (T := TX4) rfl rfl rfl (by decide) (Nat.le_of_ble_eq_true rfl) (by decide) dX4_reverse_10 rfl (fun r10 I10 L10 H locs hq hP hS => ?_)
    rcases hq with ⟨h10_0, rfl, rfl, rfl⟩ | ⟨h10_0, rfl, rfl, rfl⟩
    · obtain ⟨e10_0, l10_0⟩ := vp_ix h10_0
      obtain ⟨e144, l144⟩ := vp_ix (hmq _ (by omega))
      refine lv_if_ne (tgt := 20) hx hb dX4_reverse_13 (by decide) (fun _ => ?_) (fun c => absurd c (by decide))
      refine lv_aload_n hx hb dX4_reverse_20 rfl (lv_at hl 0 rfl) ?_
      refine lv_iload_n hx hb dX4_reverse_21 rfl (lv_at hl 1 rfl) ?_
      refine lv_aload_n hx hb dX4_reverse_22 rfl (lv_at hl 0 rfl) ?_
      refine g_get (v := .ref (ad 144)) (T := TX4) C hP 136 10 (by decide) rfl rfl inwX4 (by decide) kf_X4_33 rfl dX4_reverse_23 ?_
      refine lv_iload_n hx hb dX4_reverse_26 rfl (lv_at hl 2 rfl) ?_
      refine g_iald (v := I 144 x2.toNatClampNeg) C hP 144 40 (by decide) (fun _ _ => rfl) x2.toNatClampNeg e10_0 rfl (by omega) (by decide) dX4_reverse_27 ?_
      refine gM_callVi (As := [.int x1, .int (I 144 x2.toNatClampNeg)]) (rest := [.ref (ad 136)]) C hP hS hl.1 (ct_X4_may l D cy ad hJ x1.toNatClampNeg ((I 144 x2.toNatClampNeg).toNatClampNeg) x1 (I 144 x2.toNatClampNeg) I L e2_0 (by omega) e144 (by omega)) fa_X4_may kl_X4_93 ki_X4_may kse_X4_may (by decide) (T := TX4) rfl rfl rfl (by decide) (Nat.le_of_ble_eq_true rfl) (by decide) dX4_reverse_28 rfl (fun r28 I28 L28 H locs hq hP hS => ?_)
      rcases hq with ⟨h28_0, rfl, rfl, rfl⟩ | ⟨h28_0, rfl, rfl, rfl⟩
      · refine lv_if_eq (tgt := 44) hx hb dX4_reverse_31 (by decide) (fun c => absurd c (by decide)) (fun _ => ?_)
        refine lv_aload_n hx hb dX4_reverse_34 rfl (lv_at hl 0 rfl) ?_
        refine g_get (v := .ref (ad 146)) (T := TX4) C hP 136 12 (by decide) rfl rfl inwX4 (by decide) kf_X4_39 rfl dX4_reverse_35 ?_
        refine lv_iload_n hx hb dX4_reverse_38 rfl (lv_at hl 2 rfl) ?_
        refine g_iald (v := I 146 x2.toNatClampNeg) C hP 146 40 (by decide) (fun _ _ => rfl) x2.toNatClampNeg e10_0 rfl (by omega) (by decide) dX4_reverse_39 ?_
        refine lv_iload_n hx hb dX4_reverse_40 rfl (lv_at hl 1 rfl) ?_
        refine lv_icmp_ne (tgt := 48) hx hb dX4_reverse_41 (by decide) (fun c41 => ?_) (fun c41 => ?_)
        · refine lv_aload_n hx hb dX4_reverse_48 rfl (lv_at hl 0 rfl) ?_
          refine g_get (v := .ref (ad 148)) (T := TX4) C hP 136 14 (by decide) rfl rfl inwX4 (by decide) kf_X4_45 rfl dX4_reverse_49 ?_
          refine lv_iload_n hx hb dX4_reverse_52 rfl (lv_at hl 2 rfl) ?_
          refine g_iald (v := I 148 x2.toNatClampNeg) C hP 148 40 (by decide) (fun _ _ => rfl) x2.toNatClampNeg e10_0 rfl (by omega) (by decide) dX4_reverse_53 ?_
          refine lv_if_ge (tgt := 66) hx hb dX4_reverse_54 (by decide) (fun c54 => ?_) (fun c54 => ?_)
          · refine lv_iconst (v := 3) hx hb dX4_reverse_66 (by decide) ?_
            refine lv_goto (tgt := 71) hx hb dX4_reverse_67 (by decide) ?_
            refine g_putI (T := TX4) C hP hS 136 0 (by decide) rfl rfl inwX4 tyX4 tyX4_ok nmX4 (by decide) kf_X4_65 rfl rfl (by decide : 0 < 20) (by simp only [sI, va_up_self]; rfl) dX4_reverse_71 (fun H locs hP hS => ?_)
            refine lv_aload_n hx hb dX4_reverse_74 rfl (lv_at hl 0 rfl) ?_
            refine g_get (v := .int 3) (T := TX4) C hP 136 0 (by decide) rfl rfl inwX4 (by decide) kf_X4_65 (congrArg (fun z => some (Value.int z)) sI_eq) dX4_reverse_75 ?_
            refine lv_if_le (tgt := 83) hx hb dX4_reverse_78 (by decide) (fun c => absurd c (by decide)) (fun _ => ?_)
            refine lv_iconst (v := 0) hx hb dX4_reverse_81 (by decide) ?_
            exact gM_iret C hr hP hS (by decide) (by decide) dX4_reverse_82 (Or.inl (⟨h2_0, h10_0, h28_0, c41, c54, rfl, rfl, rfl⟩))
          · refine lv_aload_n hx hb dX4_reverse_57 rfl (lv_at hl 0 rfl) ?_
            refine g_get (v := .ref (ad 149)) (T := TX4) C hP 136 15 (by decide) rfl rfl inwX4 (by decide) kf_X4_48 rfl dX4_reverse_58 ?_
            refine lv_iload_n hx hb dX4_reverse_61 rfl (lv_at hl 2 rfl) ?_
            refine g_iald (v := I 149 x2.toNatClampNeg) C hP 149 40 (by decide) (fun _ _ => rfl) x2.toNatClampNeg e10_0 rfl (by omega) (by decide) dX4_reverse_62 ?_
            refine lv_if_lt (tgt := 70) hx hb dX4_reverse_63 (by decide) (fun c63 => ?_) (fun c63 => ?_)
            · refine lv_iconst (v := 0) hx hb dX4_reverse_70 (by decide) ?_
              refine g_putI (T := TX4) C hP hS 136 0 (by decide) rfl rfl inwX4 tyX4 tyX4_ok nmX4 (by decide) kf_X4_65 rfl rfl (by decide : 0 < 20) (by simp only [sI, va_up_self]; rfl) dX4_reverse_71 (fun H locs hP hS => ?_)
              refine lv_aload_n hx hb dX4_reverse_74 rfl (lv_at hl 0 rfl) ?_
              refine g_get (v := .int 0) (T := TX4) C hP 136 0 (by decide) rfl rfl inwX4 (by decide) kf_X4_65 (congrArg (fun z => some (Value.int z)) sI_eq) dX4_reverse_75 ?_
              refine lv_if_le (tgt := 83) hx hb dX4_reverse_78 (by decide) (fun _ => ?_) (fun c => absurd c (by decide))
              refine lv_aload_n hx hb dX4_reverse_83 rfl (lv_at hl 0 rfl) ?_
              refine lv_aload_n hx hb dX4_reverse_84 rfl (lv_at hl 0 rfl) ?_
              refine g_get (v := .ref (ad 144)) (T := TX4) C hP 136 10 (by decide) rfl rfl inwX4 (by decide) kf_X4_33 rfl dX4_reverse_85 ?_
              refine lv_iload_n hx hb dX4_reverse_88 rfl (lv_at hl 2 rfl) ?_
              refine g_iald (v := I 144 x2.toNatClampNeg) C hP 144 40 (by decide) (fun _ _ => rfl) x2.toNatClampNeg e10_0 (congrFun (sI_row (by decide)) _) (by omega) (by decide) dX4_reverse_89 ?_
              refine lv_aload_n hx hb dX4_reverse_90 rfl (lv_at hl 0 rfl) ?_
              refine g_get (v := .ref (ad 145)) (T := TX4) C hP 136 11 (by decide) rfl rfl inwX4 (by decide) kf_X4_36 rfl dX4_reverse_91 ?_
              refine lv_iload_n hx hb dX4_reverse_94 rfl (lv_at hl 2 rfl) ?_
              refine g_lald (v := L 145 x2.toNatClampNeg) C hP 145 40 (by decide) (fun _ _ => rfl) x2.toNatClampNeg e10_0 rfl (by omega) (by decide) dX4_reverse_95 ?_
              refine lv_iload_n hx hb dX4_reverse_96 rfl (lv_at hl 1 rfl) ?_
              refine lv_iconst (v := (-1)) hx hb dX4_reverse_97 (by decide) ?_
              refine lv_iload_n hx hb dX4_reverse_98 rfl (lv_at hl 2 rfl) ?_
              refine gM_callVi (As := [.int (I 144 x2.toNatClampNeg), .long (L 145 x2.toNatClampNeg), .int x1, .int (-1), .int x2]) (rest := []) C hP hS hl.1 (ct_X4_enter l D cy ad hJ lc ne ((I 144 x2.toNatClampNeg).toNatClampNeg) (I 144 x2.toNatClampNeg) (L 145 x2.toNatClampNeg) x1 (-1 : Int32) x2 (sI I 136 0 0) L hme hme40 hml hml4 hma hmr hmd e144 (by omega) (fun _ => vp_mono h10_0 (by omega))) fa_X4_enter kl_X4_133 ki_X4_enter kse_X4_enter (by decide) (T := TX4) rfl rfl rfl (by decide) (Nat.le_of_ble_eq_true rfl) (by decide) dX4_reverse_99 rfl (fun r99 I99 L99 H locs hq hP hS => ?_)
              rcases hq with ⟨h99_0, rfl, rfl, rfl⟩ | ⟨h99_0, h99_1, rfl, rfl, rfl⟩ | ⟨h99_0, h99_1, h99_2, h99_3, h99_4, rfl, rfl, rfl⟩ | ⟨h99_0, h99_1, h99_2, h99_3, rfl, rfl, rfl⟩ | ⟨h99_0, h99_1, h99_2, h99_3, h99_4, rfl, rfl, rfl⟩ | ⟨h99_0, h99_1, h99_2, h99_3, rfl, rfl, rfl⟩
              · refine lv_istore_n (lv' := [(3, .int (-1)), (0, .ref (ad 136)), (1, .int x1), (2, .int x2)]) hx hb dX4_reverse_102 rfl hl (by decide) rfl (fun ls hl => ?_)
                refine lv_aload_n hx hb dX4_reverse_103 rfl (lv_at hl 1 rfl) ?_
                refine lv_iload_n hx hb dX4_reverse_104 rfl (lv_at hl 0 rfl) ?_
                refine lv_if_ge (tgt := 112) hx hb dX4_reverse_105 (by decide) (fun c => absurd c (by decide)) (fun _ => ?_)
                refine lv_iconst (v := 3) hx hb dX4_reverse_108 (by decide) ?_
                refine lv_goto (tgt := 113) hx hb dX4_reverse_109 (by decide) ?_
                refine g_putI (T := TX4) C hP hS 136 0 (by decide) rfl rfl inwX4 tyX4 tyX4_ok nmX4 (by decide) kf_X4_65 rfl rfl (by decide : 0 < 20) (by simp only [sI, va_up_self]; rfl) dX4_reverse_113 (fun H locs hP hS => ?_)
                refine lv_iload_n hx hb dX4_reverse_116 rfl (lv_at hl 0 rfl) ?_
                refine lv_if_ge (tgt := 124) hx hb dX4_reverse_117 (by decide) (fun c => absurd c (by decide)) (fun _ => ?_)
                refine lv_iconst (v := 0) hx hb dX4_reverse_120 (by decide) ?_
                refine lv_goto (tgt := 125) hx hb dX4_reverse_121 (by decide) ?_
                exact gM_iret C hr hP hS (by decide) (by decide) dX4_reverse_125 (Or.inr (Or.inl (⟨h2_0, h10_0, h28_0, c41, c54, c63, h99_0, rfl, rfl, rfl⟩)))
              · refine lv_istore_n (lv' := [(3, .int (-1)), (0, .ref (ad 136)), (1, .int x1), (2, .int x2)]) hx hb dX4_reverse_102 rfl hl (by decide) rfl (fun ls hl => ?_)
                refine lv_aload_n hx hb dX4_reverse_103 rfl (lv_at hl 1 rfl) ?_
                refine lv_iload_n hx hb dX4_reverse_104 rfl (lv_at hl 0 rfl) ?_
                refine lv_if_ge (tgt := 112) hx hb dX4_reverse_105 (by decide) (fun c => absurd c (by decide)) (fun _ => ?_)
                refine lv_iconst (v := 3) hx hb dX4_reverse_108 (by decide) ?_
                refine lv_goto (tgt := 113) hx hb dX4_reverse_109 (by decide) ?_
                refine g_putI (T := TX4) C hP hS 136 0 (by decide) rfl rfl inwX4 tyX4 tyX4_ok nmX4 (by decide) kf_X4_65 rfl rfl (by decide : 0 < 20) (by simp only [sI, va_up_self]; rfl) dX4_reverse_113 (fun H locs hP hS => ?_)
                refine lv_iload_n hx hb dX4_reverse_116 rfl (lv_at hl 0 rfl) ?_
                refine lv_if_ge (tgt := 124) hx hb dX4_reverse_117 (by decide) (fun c => absurd c (by decide)) (fun _ => ?_)
                refine lv_iconst (v := 0) hx hb dX4_reverse_120 (by decide) ?_
                refine lv_goto (tgt := 125) hx hb dX4_reverse_121 (by decide) ?_
                exact gM_iret C hr hP hS (by decide) (by decide) dX4_reverse_125 (Or.inr (Or.inr (Or.inl (⟨h2_0, h10_0, h28_0, c41, c54, c63, h99_0, h99_1, rfl, rfl, rfl⟩))))
              · refine lv_istore_n (lv' := [(3, .int (nI ne)), (0, .ref (ad 136)), (1, .int x1), (2, .int x2)]) hx hb dX4_reverse_102 rfl hl (by decide) rfl (fun ls hl => ?_)
                refine lv_aload_n hx hb dX4_reverse_103 rfl (lv_at hl 1 rfl) ?_
                refine lv_iload_n hx hb dX4_reverse_104 rfl (lv_at hl 0 rfl) ?_
                refine lv_if_ge (tgt := 112) hx hb dX4_reverse_105 (by decide) (fun c105 => ?_) (fun c105 => absurd (Nat.zero_le _) ((not_congr (nI_leeE (show (0 : Int32) = nI 0 from rfl) rfl (by omega) (by omega))).mp c105))
                have n105 : 0 ≤ ne := (nI_leeE (show (0 : Int32) = nI 0 from rfl) rfl (by omega) (by omega)).mp c105
                refine lv_iconst (v := 0) hx hb dX4_reverse_112 (by decide) ?_
                refine g_putI (T := TX4) C hP hS 136 0 (by decide) rfl rfl inwX4 tyX4 tyX4_ok nmX4 (by decide) kf_X4_65 rfl rfl (by decide : 0 < 20) (by simp only [sI, va_up_self]; rfl) dX4_reverse_113 (fun H locs hP hS => ?_)
                refine lv_iload_n hx hb dX4_reverse_116 rfl (lv_at hl 0 rfl) ?_
                refine lv_if_ge (tgt := 124) hx hb dX4_reverse_117 (by decide) (fun c117 => ?_) (fun c117 => absurd (Nat.zero_le _) ((not_congr (nI_leeE (show (0 : Int32) = nI 0 from rfl) rfl (by omega) (by omega))).mp c117))
                have n117 : 0 ≤ ne := (nI_leeE (show (0 : Int32) = nI 0 from rfl) rfl (by omega) (by omega)).mp c117
                refine lv_iload_n hx hb dX4_reverse_124 rfl (lv_at hl 0 rfl) ?_
                exact gM_iret C hr hP hS (by decide) (by decide) dX4_reverse_125 (Or.inr (Or.inr (Or.inr (Or.inl (⟨h2_0, h10_0, h28_0, c41, c54, c63, h99_0, h99_1, h99_2, h99_3, h99_4, n105, n117, rfl, rfl, rfl⟩)))))
              · refine lv_istore_n (lv' := [(3, .int (-1)), (0, .ref (ad 136)), (1, .int x1), (2, .int x2)]) hx hb dX4_reverse_102 rfl hl (by decide) rfl (fun ls hl => ?_)
                refine lv_aload_n hx hb dX4_reverse_103 rfl (lv_at hl 1 rfl) ?_
                refine lv_iload_n hx hb dX4_reverse_104 rfl (lv_at hl 0 rfl) ?_
                refine lv_if_ge (tgt := 112) hx hb dX4_reverse_105 (by decide) (fun c => absurd c (by decide)) (fun _ => ?_)
                refine lv_iconst (v := 3) hx hb dX4_reverse_108 (by decide) ?_
                refine lv_goto (tgt := 113) hx hb dX4_reverse_109 (by decide) ?_
                refine g_putI (T := TX4) C hP hS 136 0 (by decide) rfl rfl inwX4 tyX4 tyX4_ok nmX4 (by decide) kf_X4_65 rfl rfl (by decide : 0 < 20) (by simp only [sI, va_up_self]; rfl) dX4_reverse_113 (fun H locs hP hS => ?_)
                refine lv_iload_n hx hb dX4_reverse_116 rfl (lv_at hl 0 rfl) ?_
                refine lv_if_ge (tgt := 124) hx hb dX4_reverse_117 (by decide) (fun c => absurd c (by decide)) (fun _ => ?_)
                refine lv_iconst (v := 0) hx hb dX4_reverse_120 (by decide) ?_
                refine lv_goto (tgt := 125) hx hb dX4_reverse_121 (by decide) ?_
                exact gM_iret C hr hP hS (by decide) (by decide) dX4_reverse_125 (Or.inr (Or.inr (Or.inr (Or.inr (Or.inl (⟨h2_0, h10_0, h28_0, c41, c54, c63, h99_0, h99_1, h99_2, h99_3, rfl, rfl, rfl⟩))))))
              · refine lv_istore_n (lv' := [(3, .int (nI ne)), (0, .ref (ad 136)), (1, .int x1), (2, .int x2)]) hx hb dX4_reverse_102 rfl hl (by decide) rfl (fun ls hl => ?_)
                refine lv_aload_n hx hb dX4_reverse_103 rfl (lv_at hl 1 rfl) ?_
                refine lv_iload_n hx hb dX4_reverse_104 rfl (lv_at hl 0 rfl) ?_
                refine lv_if_ge (tgt := 112) hx hb dX4_reverse_105 (by decide) (fun c105 => ?_) (fun c105 => absurd (Nat.zero_le _) ((not_congr (nI_leeE (show (0 : Int32) = nI 0 from rfl) rfl (by omega) (by omega))).mp c105))
                have n105 : 0 ≤ ne := (nI_leeE (show (0 : Int32) = nI 0 from rfl) rfl (by omega) (by omega)).mp c105
                refine lv_iconst (v := 0) hx hb dX4_reverse_112 (by decide) ?_
                refine g_putI (T := TX4) C hP hS 136 0 (by decide) rfl rfl inwX4 tyX4 tyX4_ok nmX4 (by decide) kf_X4_65 rfl rfl (by decide : 0 < 20) (by simp only [sI, va_up_self]; rfl) dX4_reverse_113 (fun H locs hP hS => ?_)
                refine lv_iload_n hx hb dX4_reverse_116 rfl (lv_at hl 0 rfl) ?_
                refine lv_if_ge (tgt := 124) hx hb dX4_reverse_117 (by decide) (fun c117 => ?_) (fun c117 => absurd (Nat.zero_le _) ((not_congr (nI_leeE (show (0 : Int32) = nI 0 from rfl) rfl (by omega) (by omega))).mp c117))
                have n117 : 0 ≤ ne := (nI_leeE (show (0 : Int32) = nI 0 from rfl) rfl (by omega) (by omega)).mp c117
                refine lv_iload_n hx hb dX4_reverse_124 rfl (lv_at hl 0 rfl) ?_
                exact gM_iret C hr hP hS (by decide) (by decide) dX4_reverse_125 (Or.inr (Or.inr (Or.inr (Or.inr (Or.inr (Or.inl (⟨h2_0, h10_0, h28_0, c41, c54, c63, h99_0, h99_1, h99_2, h99_3, h99_4, n105, n117, rfl, rfl, rfl⟩)))))))
              · refine lv_istore_n (lv' := [(3, .int (-1)), (0, .ref (ad 136)), (1, .int x1), (2, .int x2)]) hx hb dX4_reverse_102 rfl hl (by decide) rfl (fun ls hl => ?_)
                refine lv_aload_n hx hb dX4_reverse_103 rfl (lv_at hl 1 rfl) ?_
                refine lv_iload_n hx hb dX4_reverse_104 rfl (lv_at hl 0 rfl) ?_
                refine lv_if_ge (tgt := 112) hx hb dX4_reverse_105 (by decide) (fun c => absurd c (by decide)) (fun _ => ?_)
                refine lv_iconst (v := 3) hx hb dX4_reverse_108 (by decide) ?_
                refine lv_goto (tgt := 113) hx hb dX4_reverse_109 (by decide) ?_
                refine g_putI (T := TX4) C hP hS 136 0 (by decide) rfl rfl inwX4 tyX4 tyX4_ok nmX4 (by decide) kf_X4_65 rfl rfl (by decide : 0 < 20) (by simp only [sI, va_up_self]; rfl) dX4_reverse_113 (fun H locs hP hS => ?_)
                refine lv_iload_n hx hb dX4_reverse_116 rfl (lv_at hl 0 rfl) ?_
                refine lv_if_ge (tgt := 124) hx hb dX4_reverse_117 (by decide) (fun c => absurd c (by decide)) (fun _ => ?_)
                refine lv_iconst (v := 0) hx hb dX4_reverse_120 (by decide) ?_
                refine lv_goto (tgt := 125) hx hb dX4_reverse_121 (by decide) ?_
                exact gM_iret C hr hP hS (by decide) (by decide) dX4_reverse_125 (Or.inr (Or.inr (Or.inr (Or.inr (Or.inr (Or.inr (Or.inl (⟨h2_0, h10_0, h28_0, c41, c54, c63, h99_0, h99_1, h99_2, h99_3, rfl, rfl, rfl⟩))))))))
            · refine lv_iconst (v := 3) hx hb dX4_reverse_66 (by decide) ?_
              refine lv_goto (tgt := 71) hx hb dX4_reverse_67 (by decide) ?_
              refine g_putI (T := TX4) C hP hS 136 0 (by decide) rfl rfl inwX4 tyX4 tyX4_ok nmX4 (by decide) kf_X4_65 rfl rfl (by decide : 0 < 20) (by simp only [sI, va_up_self]; rfl) dX4_reverse_71 (fun H locs hP hS => ?_)
              refine lv_aload_n hx hb dX4_reverse_74 rfl (lv_at hl 0 rfl) ?_
              refine g_get (v := .int 3) (T := TX4) C hP 136 0 (by decide) rfl rfl inwX4 (by decide) kf_X4_65 (congrArg (fun z => some (Value.int z)) sI_eq) dX4_reverse_75 ?_
              refine lv_if_le (tgt := 83) hx hb dX4_reverse_78 (by decide) (fun c => absurd c (by decide)) (fun _ => ?_)
              refine lv_iconst (v := 0) hx hb dX4_reverse_81 (by decide) ?_
              exact gM_iret C hr hP hS (by decide) (by decide) dX4_reverse_82 (Or.inr (Or.inr (Or.inr (Or.inr (Or.inr (Or.inr (Or.inr (Or.inl (⟨h2_0, h10_0, h28_0, c41, c54, c63, rfl, rfl, rfl⟩)))))))))
        · refine lv_iconst (v := 2) hx hb dX4_reverse_44 (by decide) ?_
          refine lv_goto (tgt := 71) hx hb dX4_reverse_45 (by decide) ?_
          refine g_putI (T := TX4) C hP hS 136 0 (by decide) rfl rfl inwX4 tyX4 tyX4_ok nmX4 (by decide) kf_X4_65 rfl rfl (by decide : 0 < 20) (by simp only [sI, va_up_self]; rfl) dX4_reverse_71 (fun H locs hP hS => ?_)
          refine lv_aload_n hx hb dX4_reverse_74 rfl (lv_at hl 0 rfl) ?_
          refine g_get (v := .int 2) (T := TX4) C hP 136 0 (by decide) rfl rfl inwX4 (by decide) kf_X4_65 (congrArg (fun z => some (Value.int z)) sI_eq) dX4_reverse_75 ?_
          refine lv_if_le (tgt := 83) hx hb dX4_reverse_78 (by decide) (fun c => absurd c (by decide)) (fun _ => ?_)
          refine lv_iconst (v := 0) hx hb dX4_reverse_81 (by decide) ?_
          exact gM_iret C hr hP hS (by decide) (by decide) dX4_reverse_82 (Or.inr (Or.inr (Or.inr (Or.inr (Or.inr (Or.inr (Or.inr (Or.inr (Or.inl (⟨h2_0, h10_0, h28_0, c41, rfl, rfl, rfl⟩))))))))))
      · refine lv_if_eq (tgt := 44) hx hb dX4_reverse_31 (by decide) (fun _ => ?_) (fun c => absurd c (by decide))
        refine lv_iconst (v := 2) hx hb dX4_reverse_44 (by decide) ?_
        refine lv_goto (tgt := 71) hx hb dX4_reverse_45 (by decide) ?_
        refine g_putI (T := TX4) C hP hS 136 0 (by decide) rfl rfl inwX4 tyX4 tyX4_ok nmX4 (by decide) kf_X4_65 rfl rfl (by decide : 0 < 20) (by simp only [sI, va_up_self]; rfl) dX4_reverse_71 (fun H locs hP hS => ?_)
        refine lv_aload_n hx hb dX4_reverse_74 rfl (lv_at hl 0 rfl) ?_
        refine g_get (v := .int 2) (T := TX4) C hP 136 0 (by decide) rfl rfl inwX4 (by decide) kf_X4_65 (congrArg (fun z => some (Value.int z)) sI_eq) dX4_reverse_75 ?_
        refine lv_if_le (tgt := 83) hx hb dX4_reverse_78 (by decide) (fun c => absurd c (by decide)) (fun _ => ?_)
        refine lv_iconst (v := 0) hx hb dX4_reverse_81 (by decide) ?_
        exact gM_iret C hr hP hS (by decide) (by decide) dX4_reverse_82 (Or.inr (Or.inr (Or.inr (Or.inr (Or.inr (Or.inr (Or.inr (Or.inr (Or.inr (Or.inl (⟨h2_0, h10_0, h28_0, rfl, rfl, rfl⟩)))))))))))
    · refine lv_if_ne (tgt := 20) hx hb dX4_reverse_13 (by decide) (fun c => absurd c (by decide)) (fun _ => ?_)
      refine lv_iconst (v := 1) hx hb dX4_reverse_16 (by decide) ?_
      refine lv_goto (tgt := 71) hx hb dX4_reverse_17 (by decide) ?_
      refine g_putI (T := TX4) C hP hS 136 0 (by decide) rfl rfl inwX4 tyX4 tyX4_ok nmX4 (by decide) kf_X4_65 rfl rfl (by decide : 0 < 20) (by simp only [sI, va_up_self]; rfl) dX4_reverse_71 (fun H locs hP hS => ?_)
      refine lv_aload_n hx hb dX4_reverse_74 rfl (lv_at hl 0 rfl) ?_
      refine g_get (v := .int 1) (T := TX4) C hP 136 0 (by decide) rfl rfl inwX4 (by decide) kf_X4_65 (congrArg (fun z => some (Value.int z)) sI_eq) dX4_reverse_75 ?_
      refine lv_if_le (tgt := 83) hx hb dX4_reverse_78 (by decide) (fun c => absurd c (by decide)) (fun _ => ?_)
      refine lv_iconst (v := 0) hx hb dX4_reverse_81 (by decide) ?_
      exact gM_iret C hr hP hS (by decide) (by decide) dX4_reverse_82 (Or.inr (Or.inr (Or.inr (Or.inr (Or.inr (Or.inr (Or.inr (Or.inr (Or.inr (Or.inr (Or.inl (⟨h2_0, h10_0, rfl, rfl, rfl⟩))))))))))))
  · refine lv_if_eq (tgt := 16) hx hb dX4_reverse_5 (by decide) (fun _ => ?_) (fun c => absurd c (by decide))
    refine lv_iconst (v := 1) hx hb dX4_reverse_16 (by decide) ?_
    refine lv_goto (tgt := 71) hx hb dX4_reverse_17 (by decide) ?_
    refine g_putI (T := TX4) C hP hS 136 0 (by decide) rfl rfl inwX4 tyX4 tyX4_ok nmX4 (by decide) kf_X4_65 rfl rfl (by decide : 0 < 20) (by simp only [sI, va_up_self]; rfl) dX4_reverse_71 (fun H locs hP hS => ?_)
    refine lv_aload_n hx hb dX4_reverse_74 rfl (lv_at hl 0 rfl) ?_
    refine g_get (v := .int 1) (T := TX4) C hP 136 0 (by decide) rfl rfl inwX4 (by decide) kf_X4_65 (congrArg (fun z => some (Value.int z)) sI_eq) dX4_reverse_75 ?_
    refine lv_if_le (tgt := 83) hx hb dX4_reverse_78 (by decide) (fun c => absurd c (by decide)) (fun _ => ?_)
    refine lv_iconst (v := 0) hx hb dX4_reverse_81 (by decide) ?_
    exact gM_iret C hr hP hS (by decide) (by decide) dX4_reverse_82 (Or.inr (Or.inr (Or.inr (Or.inr (Or.inr (Or.inr (Or.inr (Or.inr (Or.inr (Or.inr (Or.inr (⟨h2_0, rfl, rfl, rfl⟩))))))))))))
def pq_X4_tamper (x1 : Int32) (x2 : Int64) (I : MI) (L : ML) : Int64 → MI → ML → Prop := fun r I' L' => (vp_in x1 8 ∧ x2 < (-1000000) ∧ (0 : Int64) = r ∧ (sI I 136 0 2) = I' ∧ L = L') ∨ (vp_in x1 8 ∧ ¬ x2 < (-1000000) ∧ x2 ≤ 1000000 ∧ 1000000000000 < ((L 137 x1.toNatClampNeg) + x2) ∧ (0 : Int64) = r ∧ (sI (sI I 136 0 0) 136 0 3) = I' ∧ L = L') ∨ (vp_in x1 8 ∧ ¬ x2 < (-1000000) ∧ x2 ≤ 1000000 ∧ ¬ 1000000000000 < ((L 137 x1.toNatClampNeg) + x2) ∧ (-1000000000000) ≤ ((L 137 x1.toNatClampNeg) + x2) ∧ (L 137 x1.toNatClampNeg) + x2 = r ∧ (sI I 136 0 0) = I' ∧ (sL L 137 x1.toNatClampNeg ((L 137 x1.toNatClampNeg) + x2)) = L') ∨ (vp_in x1 8 ∧ ¬ x2 < (-1000000) ∧ x2 ≤ 1000000 ∧ ¬ 1000000000000 < ((L 137 x1.toNatClampNeg) + x2) ∧ ¬ (-1000000000000) ≤ ((L 137 x1.toNatClampNeg) + x2) ∧ (0 : Int64) = r ∧ (sI (sI I 136 0 0) 136 0 3) = I' ∧ L = L') ∨ (vp_in x1 8 ∧ ¬ x2 < (-1000000) ∧ ¬ x2 ≤ 1000000 ∧ (0 : Int64) = r ∧ (sI I 136 0 2) = I' ∧ L = L') ∨ (¬ vp_in x1 8 ∧ (0 : Int64) = r ∧ (sI I 136 0 1) = I' ∧ L = L')
set_option maxRecDepth 100000 in
set_option maxHeartbeats 4000000 in
theorem ct_X4_tamper (l : Launch) (D : va_G) (cy : Nat → ClassId) (ad : Nat → Nat) (hJ : gJ ad) (x1 : Int32) (x2 : Int64) (I : MI) (L : ML) : gMl l D cy ad yX4_tamper cX4_tamper 4 .long (gR 1 0 0) [.ref (ad 136), .int x1, .long x2] I L (pq_X4_tamper x1 x2 I L) := by
  refine gMl_of hJ (by decide +kernel) kc_X4_tamper (Nat.le_of_ble_eq_true rfl) (fun p e s m below meth c A ls C hr hP hS hl => ?_)
  have hx := C.hx
  have hb := C.hb
  have hl : lv_has ls 4 [(0, .ref (ad 136)), (1, .int x1), (2, .long x2)] := hl
  refine lv_aload_n hx hb dX4_tamper_0 rfl (lv_at hl 0 rfl) ?_
  refine lv_iload_n hx hb dX4_tamper_1 rfl (lv_at hl 1 rfl) ?_
  refine gM_callSi (As := [.int x1]) (rest := [.ref (ad 136)]) C hP hS hl.1 (ct_X4_isOne l D cy ad hJ x1 I L) fa_X4_isOne kl_X4_72 kst_X4_isOne rfl (by decide) (Nat.le_of_ble_eq_true rfl) (by decide) dX4_tamper_2 rfl (fun r2 I2 L2 H locs hq hP hS => ?_)
  rcases hq with ⟨h2_0, rfl, rfl, rfl⟩ | ⟨h2_0, rfl, rfl, rfl⟩
  · obtain ⟨e2_0, l2_0⟩ := vp_ix h2_0
    refine lv_if_ne (tgt := 12) hx hb dX4_tamper_5 (by decide) (fun _ => ?_) (fun c => absurd c (by decide))
    refine lv_lload_n hx hb dX4_tamper_12 rfl (lv_at hl 2 rfl) ?_
    refine lv_ldc2 (v := (-1000000)) hx hb C.hown (C.hts _ kcn_X4_146) dX4_tamper_13 ?_
    refine W.lcmp hx hb dX4_tamper_16 ?_
    refine lv_if_lt (tgt := 28) hx hb dX4_tamper_17 (by decide) (fun c17 => ?_) (fun c17 => ?_)
    · have n17 : x2 < (-1000000) := (lg_cmp_lt _ _).mp c17
      refine lv_iconst (v := 2) hx hb dX4_tamper_28 (by decide) ?_
      refine lv_goto (tgt := 33) hx hb dX4_tamper_29 (by decide) ?_
      refine g_putI (T := TX4) C hP hS 136 0 (by decide) rfl rfl inwX4 tyX4 tyX4_ok nmX4 (by decide) kf_X4_65 rfl rfl (by decide : 0 < 20) (by simp only [sI, va_up_self]; rfl) dX4_tamper_33 (fun H locs hP hS => ?_)
      refine lv_aload_n hx hb dX4_tamper_36 rfl (lv_at hl 0 rfl) ?_
      refine g_get (v := .int 2) (T := TX4) C hP 136 0 (by decide) rfl rfl inwX4 (by decide) kf_X4_65 (congrArg (fun z => some (Value.int z)) sI_eq) dX4_tamper_37 ?_
      refine lv_if_ne (tgt := 78) hx hb dX4_tamper_40 (by decide) (fun _ => ?_) (fun c => absurd c (by decide))
      refine lv_aload_n hx hb dX4_tamper_78 rfl (lv_at hl 0 rfl) ?_
      refine g_get (v := .int 2) (T := TX4) C hP 136 0 (by decide) rfl rfl inwX4 (by decide) kf_X4_65 (congrArg (fun z => some (Value.int z)) sI_eq) dX4_tamper_79 ?_
      refine lv_if_le (tgt := 87) hx hb dX4_tamper_82 (by decide) (fun c => absurd c (by decide)) (fun _ => ?_)
      refine lv_lconst (v := 0) hx hb dX4_tamper_85 (by decide) ?_
      exact gM_lret C hr hP hS (by decide) (by decide) dX4_tamper_86 (Or.inl (⟨h2_0, n17, rfl, rfl, rfl⟩))
    · have n17 : ¬ x2 < (-1000000) := (not_congr (lg_cmp_lt _ _)).mp c17
      refine lv_lload_n hx hb dX4_tamper_20 rfl (lv_at hl 2 rfl) ?_
      refine lv_ldc2 (v := 1000000) hx hb C.hown (C.hts _ kcn_X4_148) dX4_tamper_21 ?_
      refine W.lcmp hx hb dX4_tamper_24 ?_
      refine lv_if_le (tgt := 32) hx hb dX4_tamper_25 (by decide) (fun c25 => ?_) (fun c25 => ?_)
      · have n25 : x2 ≤ 1000000 := (lg_cmp_le _ _).mp c25
        refine lv_iconst (v := 0) hx hb dX4_tamper_32 (by decide) ?_
        refine g_putI (T := TX4) C hP hS 136 0 (by decide) rfl rfl inwX4 tyX4 tyX4_ok nmX4 (by decide) kf_X4_65 rfl rfl (by decide : 0 < 20) (by simp only [sI, va_up_self]; rfl) dX4_tamper_33 (fun H locs hP hS => ?_)
        refine lv_aload_n hx hb dX4_tamper_36 rfl (lv_at hl 0 rfl) ?_
        refine g_get (v := .int 0) (T := TX4) C hP 136 0 (by decide) rfl rfl inwX4 (by decide) kf_X4_65 (congrArg (fun z => some (Value.int z)) sI_eq) dX4_tamper_37 ?_
        refine lv_if_ne (tgt := 78) hx hb dX4_tamper_40 (by decide) (fun c => absurd c (by decide)) (fun _ => ?_)
        refine lv_aload_n hx hb dX4_tamper_43 rfl (lv_at hl 0 rfl) ?_
        refine g_get (v := .ref (ad 137)) (T := TX4) C hP 136 1 (by decide) rfl rfl inwX4 (by decide) kf_X4_7 rfl dX4_tamper_44 ?_
        refine lv_iload_n hx hb dX4_tamper_47 rfl (lv_at hl 1 rfl) ?_
        refine g_lald (v := L 137 x1.toNatClampNeg) C hP 137 8 (by decide) (fun _ _ => rfl) x1.toNatClampNeg e2_0 rfl (by omega) (by decide) dX4_tamper_48 ?_
        refine lv_lload_n hx hb dX4_tamper_49 rfl (lv_at hl 2 rfl) ?_
        refine lv_ladd hx hb dX4_tamper_50 ?_
        refine lv_ldc2 (v := 1000000000000) hx hb C.hown (C.hts _ kcn_X4_96) dX4_tamper_51 ?_
        refine W.lcmp hx hb dX4_tamper_54 ?_
        refine lv_if_gt (tgt := 73) hx hb dX4_tamper_55 (by decide) (fun c55 => ?_) (fun c55 => ?_)
        · have n55 : 1000000000000 < ((L 137 x1.toNatClampNeg) + x2) := (lg_cmp_gt _ _).mp c55
          refine lv_aload_n hx hb dX4_tamper_73 rfl (lv_at hl 0 rfl) ?_
          refine lv_iconst (v := 3) hx hb dX4_tamper_74 (by decide) ?_
          refine g_putI (T := TX4) C hP hS 136 0 (by decide) rfl rfl inwX4 tyX4 tyX4_ok nmX4 (by decide) kf_X4_65 rfl rfl (by decide : 0 < 20) (by simp only [sI, va_up_self]; rfl) dX4_tamper_75 (fun H locs hP hS => ?_)
          refine lv_aload_n hx hb dX4_tamper_78 rfl (lv_at hl 0 rfl) ?_
          refine g_get (v := .int 3) (T := TX4) C hP 136 0 (by decide) rfl rfl inwX4 (by decide) kf_X4_65 (congrArg (fun z => some (Value.int z)) sI_eq) dX4_tamper_79 ?_
          refine lv_if_le (tgt := 87) hx hb dX4_tamper_82 (by decide) (fun c => absurd c (by decide)) (fun _ => ?_)
          refine lv_lconst (v := 0) hx hb dX4_tamper_85 (by decide) ?_
          exact gM_lret C hr hP hS (by decide) (by decide) dX4_tamper_86 (Or.inr (Or.inl (⟨h2_0, n17, n25, n55, rfl, rfl, rfl⟩)))
        · have n55 : ¬ 1000000000000 < ((L 137 x1.toNatClampNeg) + x2) := (not_congr (lg_cmp_gt _ _)).mp c55
          refine lv_aload_n hx hb dX4_tamper_58 rfl (lv_at hl 0 rfl) ?_
          refine g_get (v := .ref (ad 137)) (T := TX4) C hP 136 1 (by decide) rfl rfl inwX4 (by decide) kf_X4_7 rfl dX4_tamper_59 ?_
          refine lv_iload_n hx hb dX4_tamper_62 rfl (lv_at hl 1 rfl) ?_
          refine g_lald (v := L 137 x1.toNatClampNeg) C hP 137 8 (by decide) (fun _ _ => rfl) x1.toNatClampNeg e2_0 rfl (by omega) (by decide) dX4_tamper_63 ?_
          refine lv_lload_n hx hb dX4_tamper_64 rfl (lv_at hl 2 rfl) ?_
          refine lv_ladd hx hb dX4_tamper_65 ?_
          refine lv_ldc2 (v := (-1000000000000)) hx hb C.hown (C.hts _ kcn_X4_63) dX4_tamper_66 ?_
          refine W.lcmp hx hb dX4_tamper_69 ?_
          refine lv_if_ge (tgt := 78) hx hb dX4_tamper_70 (by decide) (fun c70 => ?_) (fun c70 => ?_)
          · have n70 : (-1000000000000) ≤ ((L 137 x1.toNatClampNeg) + x2) := (lg_cmp_ge _ _).mp c70
            refine lv_aload_n hx hb dX4_tamper_78 rfl (lv_at hl 0 rfl) ?_
            refine g_get (v := .int 0) (T := TX4) C hP 136 0 (by decide) rfl rfl inwX4 (by decide) kf_X4_65 (congrArg (fun z => some (Value.int z)) sI_eq) dX4_tamper_79 ?_
            refine lv_if_le (tgt := 87) hx hb dX4_tamper_82 (by decide) (fun _ => ?_) (fun c => absurd c (by decide))
            refine lv_aload_n hx hb dX4_tamper_87 rfl (lv_at hl 0 rfl) ?_
            refine g_get (v := .ref (ad 137)) (T := TX4) C hP 136 1 (by decide) rfl rfl inwX4 (by decide) kf_X4_7 rfl dX4_tamper_88 ?_
            refine lv_iload_n hx hb dX4_tamper_91 rfl (lv_at hl 1 rfl) ?_
            refine lv_aload_n hx hb dX4_tamper_92 rfl (lv_at hl 0 rfl) ?_
            refine g_get (v := .ref (ad 137)) (T := TX4) C hP 136 1 (by decide) rfl rfl inwX4 (by decide) kf_X4_7 rfl dX4_tamper_93 ?_
            refine lv_iload_n hx hb dX4_tamper_96 rfl (lv_at hl 1 rfl) ?_
            refine g_lald (v := L 137 x1.toNatClampNeg) C hP 137 8 (by decide) (fun _ _ => rfl) x1.toNatClampNeg e2_0 rfl (by omega) (by decide) dX4_tamper_97 ?_
            refine lv_lload_n hx hb dX4_tamper_98 rfl (lv_at hl 2 rfl) ?_
            refine lv_ladd hx hb dX4_tamper_99 ?_
            refine g_last C hP hS 137 8 (by decide) (fun _ _ => rfl) x1.toNatClampNeg e2_0 (by omega) (by decide) dX4_tamper_100 (fun H locs hP hS => ?_)
            refine lv_aload_n hx hb dX4_tamper_101 rfl (lv_at hl 0 rfl) ?_
            refine g_get (v := .ref (ad 137)) (T := TX4) C hP 136 1 (by decide) rfl rfl inwX4 (by decide) kf_X4_7 rfl dX4_tamper_102 ?_
            refine lv_iload_n hx hb dX4_tamper_105 rfl (lv_at hl 1 rfl) ?_
            refine g_lald (v := (L 137 x1.toNatClampNeg) + x2) C hP 137 8 (by decide) (fun _ _ => rfl) x1.toNatClampNeg e2_0 sL_eq (by omega) (by decide) dX4_tamper_106 ?_
            exact gM_lret C hr hP hS (by decide) (by decide) dX4_tamper_107 (Or.inr (Or.inr (Or.inl (⟨h2_0, n17, n25, n55, n70, rfl, rfl, rfl⟩))))
          · have n70 : ¬ (-1000000000000) ≤ ((L 137 x1.toNatClampNeg) + x2) := (not_congr (lg_cmp_ge _ _)).mp c70
            refine lv_aload_n hx hb dX4_tamper_73 rfl (lv_at hl 0 rfl) ?_
            refine lv_iconst (v := 3) hx hb dX4_tamper_74 (by decide) ?_
            refine g_putI (T := TX4) C hP hS 136 0 (by decide) rfl rfl inwX4 tyX4 tyX4_ok nmX4 (by decide) kf_X4_65 rfl rfl (by decide : 0 < 20) (by simp only [sI, va_up_self]; rfl) dX4_tamper_75 (fun H locs hP hS => ?_)
            refine lv_aload_n hx hb dX4_tamper_78 rfl (lv_at hl 0 rfl) ?_
            refine g_get (v := .int 3) (T := TX4) C hP 136 0 (by decide) rfl rfl inwX4 (by decide) kf_X4_65 (congrArg (fun z => some (Value.int z)) sI_eq) dX4_tamper_79 ?_
            refine lv_if_le (tgt := 87) hx hb dX4_tamper_82 (by decide) (fun c => absurd c (by decide)) (fun _ => ?_)
            refine lv_lconst (v := 0) hx hb dX4_tamper_85 (by decide) ?_
            exact gM_lret C hr hP hS (by decide) (by decide) dX4_tamper_86 (Or.inr (Or.inr (Or.inr (Or.inl (⟨h2_0, n17, n25, n55, n70, rfl, rfl, rfl⟩)))))
      · have n25 : ¬ x2 ≤ 1000000 := (not_congr (lg_cmp_le _ _)).mp c25
        refine lv_iconst (v := 2) hx hb dX4_tamper_28 (by decide) ?_
        refine lv_goto (tgt := 33) hx hb dX4_tamper_29 (by decide) ?_
        refine g_putI (T := TX4) C hP hS 136 0 (by decide) rfl rfl inwX4 tyX4 tyX4_ok nmX4 (by decide) kf_X4_65 rfl rfl (by decide : 0 < 20) (by simp only [sI, va_up_self]; rfl) dX4_tamper_33 (fun H locs hP hS => ?_)
        refine lv_aload_n hx hb dX4_tamper_36 rfl (lv_at hl 0 rfl) ?_
        refine g_get (v := .int 2) (T := TX4) C hP 136 0 (by decide) rfl rfl inwX4 (by decide) kf_X4_65 (congrArg (fun z => some (Value.int z)) sI_eq) dX4_tamper_37 ?_
        refine lv_if_ne (tgt := 78) hx hb dX4_tamper_40 (by decide) (fun _ => ?_) (fun c => absurd c (by decide))
        refine lv_aload_n hx hb dX4_tamper_78 rfl (lv_at hl 0 rfl) ?_
        refine g_get (v := .int 2) (T := TX4) C hP 136 0 (by decide) rfl rfl inwX4 (by decide) kf_X4_65 (congrArg (fun z => some (Value.int z)) sI_eq) dX4_tamper_79 ?_
        refine lv_if_le (tgt := 87) hx hb dX4_tamper_82 (by decide) (fun c => absurd c (by decide)) (fun _ => ?_)
        refine lv_lconst (v := 0) hx hb dX4_tamper_85 (by decide) ?_
        exact gM_lret C hr hP hS (by decide) (by decide) dX4_tamper_86 (Or.inr (Or.inr (Or.inr (Or.inr (Or.inl (⟨h2_0, n17, n25, rfl, rfl, rfl⟩))))))
  · refine lv_if_ne (tgt := 12) hx hb dX4_tamper_5 (by decide) (fun c => absurd c (by decide)) (fun _ => ?_)
    refine lv_iconst (v := 1) hx hb dX4_tamper_8 (by decide) ?_
    refine lv_goto (tgt := 33) hx hb dX4_tamper_9 (by decide) ?_
    refine g_putI (T := TX4) C hP hS 136 0 (by decide) rfl rfl inwX4 tyX4 tyX4_ok nmX4 (by decide) kf_X4_65 rfl rfl (by decide : 0 < 20) (by simp only [sI, va_up_self]; rfl) dX4_tamper_33 (fun H locs hP hS => ?_)
    refine lv_aload_n hx hb dX4_tamper_36 rfl (lv_at hl 0 rfl) ?_
    refine g_get (v := .int 1) (T := TX4) C hP 136 0 (by decide) rfl rfl inwX4 (by decide) kf_X4_65 (congrArg (fun z => some (Value.int z)) sI_eq) dX4_tamper_37 ?_
    refine lv_if_ne (tgt := 78) hx hb dX4_tamper_40 (by decide) (fun _ => ?_) (fun c => absurd c (by decide))
    refine lv_aload_n hx hb dX4_tamper_78 rfl (lv_at hl 0 rfl) ?_
    refine g_get (v := .int 1) (T := TX4) C hP 136 0 (by decide) rfl rfl inwX4 (by decide) kf_X4_65 (congrArg (fun z => some (Value.int z)) sI_eq) dX4_tamper_79 ?_
    refine lv_if_le (tgt := 87) hx hb dX4_tamper_82 (by decide) (fun c => absurd c (by decide)) (fun _ => ?_)
    refine lv_lconst (v := 0) hx hb dX4_tamper_85 (by decide) ?_
    exact gM_lret C hr hP hS (by decide) (by decide) dX4_tamper_86 (Or.inr (Or.inr (Or.inr (Or.inr (Or.inr (⟨h2_0, rfl, rfl, rfl⟩))))))
def pq_X4_restore (lc : Nat → Nat) (ne : Nat) (x1 : Int32) (I : MI) (L : ML) : Int32 → MI → ML → Prop := fun r I' L' => (vp_in x1 8 ∧ (x1 = 0 ∨ x1 = 1) ∧ nI (gcn (L 137) (glf (sI I 136 0 0) lc (L 145) ne) 8) = r ∧ (sI I 136 0 0) = I' ∧ (gRT (sI I 136 0 0) lc L ne 8) = L') ∨ (vp_in x1 8 ∧ ¬ (x1 = 0 ∨ x1 = 1) ∧ 0 = r ∧ sI I 136 0 2 = I' ∧ L = L') ∨ (¬ vp_in x1 8 ∧ 0 = r ∧ sI I 136 0 1 = I' ∧ L = L')
set_option maxRecDepth 100000 in
set_option maxHeartbeats 4000000 in
theorem ct_X4_restore (l : Launch) (D : va_G) (cy : Nat → ClassId) (ad : Nat → Nat) (hJ : gJ ad) (lc : Nat → Nat) (ne : Nat) (x1 : Int32) (I : MI) (L : ML) (hme : I 136 9 = nI ne) (hme40 : ne ≤ 40) (hml : ∀ p, p < 10 → I 139 p = nI (lc p)) (hml4 : ∀ p, p < 10 → lc p ≤ 4) (hma : ∀ p, p < 10 → ∀ k, k < lc p → vp_in (I 141 (4 * p + k)) 8) (hmr : ∀ e, e < ne → vp_in (I 144 e) 10) : gMi l D cy ad yX4_restore cX4_restore 6 .int (gR 1 0 0) [.ref (ad 136), .int x1] I L (pq_X4_restore lc ne x1 I L) := by
  refine gMi_of hJ (by decide +kernel) kc_X4_restore (Nat.le_of_ble_eq_true rfl) (fun p e s m below meth c A ls C hr hP hS hl => ?_)
  have hx := C.hx
  have hb := C.hb
  have hl : lv_has ls 6 [(0, .ref (ad 136)), (1, .int x1)] := hl
  refine lv_aload_n hx hb dX4_restore_0 rfl (lv_at hl 0 rfl) ?_
  refine lv_iload_n hx hb dX4_restore_1 rfl (lv_at hl 1 rfl) ?_
  refine gM_callSi (As := [.int x1]) (rest := [.ref (ad 136)]) C hP hS hl.1 (ct_X4_isOne l D cy ad hJ x1 I L) fa_X4_isOne kl_X4_72 kst_X4_isOne rfl (by decide) (Nat.le_of_ble_eq_true rfl) (by decide) dX4_restore_2 rfl (fun r2 I2 L2 H locs hq hP hS => ?_)
  rcases hq with ⟨h2_0, rfl, rfl, rfl⟩ | ⟨h2_0, rfl, rfl, rfl⟩
  · obtain ⟨e2_0, l2_0⟩ := vp_ix h2_0
    refine lv_if_ne (tgt := 12) hx hb dX4_restore_5 (by decide) (fun _ => ?_) (fun c => absurd c (by decide))
    refine lv_iload_n hx hb dX4_restore_12 rfl (lv_at hl 1 rfl) ?_
    refine gM_callSi (As := [.int x1]) (rest := [.ref (ad 136)]) C hP hS hl.1 (ct_X4_isOfficer l D cy ad hJ x1 I L) fa_X4_isOfficer kl_X4_86 kst_X4_isOfficer rfl (by decide) (Nat.le_of_ble_eq_true rfl) (by decide) dX4_restore_13 rfl (fun r13 I13 L13 H locs hq hP hS => ?_)
    rcases hq with ⟨h13_0, rfl, rfl, rfl⟩ | ⟨h13_0, rfl, rfl, rfl⟩
    · refine lv_if_ne (tgt := 23) hx hb dX4_restore_16 (by decide) (fun _ => ?_) (fun c => absurd c (by decide))
      refine lv_iconst (v := 0) hx hb dX4_restore_23 (by decide) ?_
      refine g_putI (T := TX4) C hP hS 136 0 (by decide) rfl rfl inwX4 tyX4 tyX4_ok nmX4 (by decide) kf_X4_65 rfl rfl (by decide : 0 < 20) (by simp only [sI, va_up_self]; rfl) dX4_restore_24 (fun H locs hP hS => ?_)
      refine lv_aload_n hx hb dX4_restore_27 rfl (lv_at hl 0 rfl) ?_
      refine g_get (v := .int 0) (T := TX4) C hP 136 0 (by decide) rfl rfl inwX4 (by decide) kf_X4_65 (congrArg (fun z => some (Value.int z)) sI_eq) dX4_restore_28 ?_
      refine lv_if_le (tgt := 36) hx hb dX4_restore_31 (by decide) (fun _ => ?_) (fun c => absurd c (by decide))
      refine lv_iconst (v := 0) hx hb dX4_restore_36 (by decide) ?_
      refine lv_istore_n (lv' := [(2, .int 0), (0, .ref (ad 136)), (1, .int x1)]) hx hb dX4_restore_37 rfl hl (by decide) rfl (fun ls hl => ?_)
      refine lv_iconst (v := 0) hx hb dX4_restore_38 (by decide) ?_
      refine lv_istore_n (lv' := [(3, .int 0), (2, .int 0), (0, .ref (ad 136)), (1, .int x1)]) hx hb dX4_restore_39 rfl hl (by decide) rfl (fun ls hl => ?_)
      have loop40 : ∀ (N : Nat) (i : Nat) (hi : i ≤ 8) (hfu : 8 < i + N) (H : Heap) (locs : List Loc) (ls : Array Slot), gP D cy ad (sI I 136 0 0) (gRT (sI I 136 0 0) lc L ne i) H → va_S A s.heap H locs → lv_has ls 6 [(0, .ref (ad 136)), (1, .int x1), (2, .int (nI (gcn (L 137) (glf (sI I 136 0 0) lc (L 145) ne) i))), (3, .int (nI i))] → W p l e (gR 1 0 0) s m ([.ref (ad 136), .int x1] : List Value).toArray below meth c H locs 0 0 (MQ below (gQi D cy ad A (pq_X4_restore lc ne x1 I L)) ([.ref (ad 136), .int x1] : List Value).toArray s 0 0 A) (F0 m 40 ls []) := by
        intro N
        induction N with
        | zero =>
          intro i hi hfu
          exact absurd hfu (by omega)
        | succ N ih40 =>
          intro i hi hfu H locs ls hP hS hl
          refine lv_iload_n hx hb dX4_restore_40 rfl (lv_at hl 3 rfl) ?_
          refine lv_bipush (v := 8) hx hb dX4_restore_41 (by decide) ?_
          refine lv_icmp_ge (tgt := 91) hx hb dX4_restore_43 (by decide) (fun c43 => ?_) (fun c43 => ?_)
          · have n43 : 8 ≤ i := (nI_leeE (show (8 : Int32) = nI 8 from rfl) rfl (by omega) (by omega)).mp c43
            refine lv_iload_n hx hb dX4_restore_91 rfl (lv_at hl 2 rfl) ?_
            exact gM_iret C hr hP hS (by decide) (by decide) dX4_restore_92 (Or.inl ⟨h2_0, h13_0, by rw [show i = 8 by omega], rfl, by rw [show i = 8 by omega]⟩)  -- end 0: h2_0 : vp_in x1 8 ; h13_0 : (x1 = 0 ∨ x1 = 1) ; n43 : 8 ≤ i
          · have n43 : ¬ 8 ≤ i := (not_congr (nI_leeE (show (8 : Int32) = nI 8 from rfl) rfl (by omega) (by omega))).mp c43
            refine lv_aload_n hx hb dX4_restore_46 rfl (lv_at hl 0 rfl) ?_
            refine lv_iload_n hx hb dX4_restore_47 rfl (lv_at hl 3 rfl) ?_
            refine lv_aload_n hx hb dX4_restore_48 rfl (lv_at hl 0 rfl) ?_
            refine g_get (v := .int (nI ne)) (T := TX4) C hP 136 9 (by decide) rfl rfl inwX4 (by decide) kf_X4_104 (congrArg (fun z => some (Value.int z)) ((sI_ne (by decide)).trans hme)) dX4_restore_49 ?_
            refine gM_callVl (As := [.int (nI i), .int (nI ne)]) (rest := []) C hP hS hl.1 (ct_X4_logged l D cy ad hJ lc i ne (nI i) (nI ne) (sI I 136 0 0) (gRT (sI I 136 0 0) lc L ne i) rfl (by omega) rfl (by omega) hml hml4 hma hmr) fa_X4_logged kl_X4_107 ki_X4_logged kse_X4_logged (by decide) (T := TX4) rfl rfl rfl (by decide) (Nat.le_of_ble_eq_true rfl) (by decide) dX4_restore_52 rfl (fun r52 I52 L52 H locs hq hP hS => ?_)
            obtain ⟨hr52, rfl, rfl⟩ := hq
            rw [gRT_o (sI I 136 0 0) lc L ne (by decide) (by decide) i] at hr52
            subst hr52
            refine lv_lstore (lv' := [(4, .long (glg (sI I 136 0 0) lc (L 145) i ne)), (0, .ref (ad 136)), (1, .int x1), (2, .int (nI (gcn (L 137) (glf (sI I 136 0 0) lc (L 145) ne) i))), (3, .int (nI i))]) hx hb dX4_restore_55 hl (by decide) rfl (fun ls hl => ?_)
            refine lv_aload_n hx hb dX4_restore_57 rfl (lv_at hl 1 rfl) ?_
            refine g_get (v := .ref (ad 137)) (T := TX4) C hP 136 1 (by decide) rfl rfl inwX4 (by decide) kf_X4_7 rfl dX4_restore_58 ?_
            refine lv_iload_n hx hb dX4_restore_61 rfl (lv_at hl 4 rfl) ?_
            refine g_lald (v := L 137 i) C hP 137 8 (by decide) (fun _ _ => rfl) i rfl gRT_i (by omega) (by decide) dX4_restore_62 ?_
            refine lv_lload hx hb dX4_restore_63 (lv_at hl 0 rfl) ?_
            refine W.lcmp hx hb dX4_restore_65 ?_
            refine lv_if_eq (tgt := 75) hx hb dX4_restore_66 (by decide) (fun c66 => ?_) (fun c66 => ?_)
            · have n66 : (L 137 i) = (glg (sI I 136 0 0) lc (L 145) i ne) := (lg_cmp_eq _ _).mp c66
              refine lv_iload_n hx hb dX4_restore_75 rfl (lv_at hl 3 rfl) ?_
              refine lv_istore_n (lv' := [(2, .int (nI (gcn (L 137) (glf (sI I 136 0 0) lc (L 145) ne) i))), (4, .long (glg (sI I 136 0 0) lc (L 145) i ne)), (0, .ref (ad 136)), (1, .int x1), (3, .int (nI i))]) hx hb dX4_restore_76 rfl hl (by decide) rfl (fun ls hl => ?_)
              refine lv_aload_n hx hb dX4_restore_77 rfl (lv_at hl 2 rfl) ?_
              refine g_get (v := .ref (ad 137)) (T := TX4) C hP 136 1 (by decide) rfl rfl inwX4 (by decide) kf_X4_7 rfl dX4_restore_78 ?_
              refine lv_iload_n hx hb dX4_restore_81 rfl (lv_at hl 4 rfl) ?_
              refine lv_lload hx hb dX4_restore_82 (lv_at hl 1 rfl) ?_
              refine g_last C hP hS 137 8 (by decide) (fun _ _ => rfl) i rfl (by omega) (by decide) dX4_restore_84 (fun H locs hP hS => ?_)
              refine lv_iinc (v := nI (i + 1)) (lv' := [(3, .int (nI (i + 1))), (2, .int (nI (gcn (L 137) (glf (sI I 136 0 0) lc (L 145) ne) i))), (4, .long (glg (sI I 136 0 0) lc (L 145) i ne)), (0, .ref (ad 136)), (1, .int x1)]) hx hb dX4_restore_85 hl (k := 4) rfl (nI_1 _) (by decide) rfl (fun ls hl => ?_)
              refine lv_goto (tgt := 40) hx hb dX4_restore_88 (by decide) ?_
              have e88 : (sL (gsc (sI I 136 0 0) lc (gRT (sI I 136 0 0) lc L ne i) ne) 137 i (glg (sI I 136 0 0) lc (L 145) i ne)) = (gRT (sI I 136 0 0) lc L ne (i + 1)) := rfl
              rw [e88] at hP
              rw [show gcn (L 137) (glf (sI I 136 0 0) lc (L 145) ne) i = gcn (L 137) (glf (sI I 136 0 0) lc (L 145) ne) (i + 1) from (gcn_eq n66).symm] at hl
              exact ih40 (i + 1) (by omega) (by omega) _ _ _ hP hS (lv_sub hl [3, 4, 1, 0] rfl)
            · have n66 : ¬ (L 137 i) = (glg (sI I 136 0 0) lc (L 145) i ne) := (not_congr (lg_cmp_eq _ _)).mp c66
              refine lv_iload_n hx hb dX4_restore_69 rfl (lv_at hl 3 rfl) ?_
              refine lv_iconst (v := 1) hx hb dX4_restore_70 (by decide) ?_
              refine lv_iadd hx hb dX4_restore_71 ?_
              refine lv_goto (tgt := 76) hx hb dX4_restore_72 (by decide) ?_
              refine lv_istore_n (lv' := [(2, .int ((nI (gcn (L 137) (glf (sI I 136 0 0) lc (L 145) ne) i)) + 1)), (4, .long (glg (sI I 136 0 0) lc (L 145) i ne)), (0, .ref (ad 136)), (1, .int x1), (3, .int (nI i))]) hx hb dX4_restore_76 rfl hl (by decide) rfl (fun ls hl => ?_)
              refine lv_aload_n hx hb dX4_restore_77 rfl (lv_at hl 2 rfl) ?_
              refine g_get (v := .ref (ad 137)) (T := TX4) C hP 136 1 (by decide) rfl rfl inwX4 (by decide) kf_X4_7 rfl dX4_restore_78 ?_
              refine lv_iload_n hx hb dX4_restore_81 rfl (lv_at hl 4 rfl) ?_
              refine lv_lload hx hb dX4_restore_82 (lv_at hl 1 rfl) ?_
              refine g_last C hP hS 137 8 (by decide) (fun _ _ => rfl) i rfl (by omega) (by decide) dX4_restore_84 (fun H locs hP hS => ?_)
              refine lv_iinc (v := nI (i + 1)) (lv' := [(3, .int (nI (i + 1))), (2, .int ((nI (gcn (L 137) (glf (sI I 136 0 0) lc (L 145) ne) i)) + 1)), (4, .long (glg (sI I 136 0 0) lc (L 145) i ne)), (0, .ref (ad 136)), (1, .int x1)]) hx hb dX4_restore_85 hl (k := 4) rfl (nI_1 _) (by decide) rfl (fun ls hl => ?_)
              refine lv_goto (tgt := 40) hx hb dX4_restore_88 (by decide) ?_
              have e88 : (sL (gsc (sI I 136 0 0) lc (gRT (sI I 136 0 0) lc L ne i) ne) 137 i (glg (sI I 136 0 0) lc (L 145) i ne)) = (gRT (sI I 136 0 0) lc L ne (i + 1)) := rfl
              rw [e88] at hP
              rw [show nI (gcn (L 137) (glf (sI I 136 0 0) lc (L 145) ne) i) + 1 = nI (gcn (L 137) (glf (sI I 136 0 0) lc (L 145) ne) (i + 1)) from (nI_addE rfl (show (1 : Int32) = nI 1 from rfl)).trans (congrArg nI (gcn_ne n66).symm)] at hl
              exact ih40 (i + 1) (by omega) (by omega) _ _ _ hP hS (lv_sub hl [3, 4, 1, 0] rfl)
      exact loop40 9 0 (Nat.zero_le _) (by omega) _ _ _ hP hS (lv_sub hl [2, 3, 1, 0] rfl)
    · refine lv_if_ne (tgt := 23) hx hb dX4_restore_16 (by decide) (fun c => absurd c (by decide)) (fun _ => ?_)
      refine lv_iconst (v := 2) hx hb dX4_restore_19 (by decide) ?_
      refine lv_goto (tgt := 24) hx hb dX4_restore_20 (by decide) ?_
      refine g_putI (T := TX4) C hP hS 136 0 (by decide) rfl rfl inwX4 tyX4 tyX4_ok nmX4 (by decide) kf_X4_65 rfl rfl (by decide : 0 < 20) (by simp only [sI, va_up_self]; rfl) dX4_restore_24 (fun H locs hP hS => ?_)
      refine lv_aload_n hx hb dX4_restore_27 rfl (lv_at hl 0 rfl) ?_
      refine g_get (v := .int 2) (T := TX4) C hP 136 0 (by decide) rfl rfl inwX4 (by decide) kf_X4_65 (congrArg (fun z => some (Value.int z)) sI_eq) dX4_restore_28 ?_
      refine lv_if_le (tgt := 36) hx hb dX4_restore_31 (by decide) (fun c => absurd c (by decide)) (fun _ => ?_)
      refine lv_iconst (v := 0) hx hb dX4_restore_34 (by decide) ?_
      exact gM_iret C hr hP hS (by decide) (by decide) dX4_restore_35 (Or.inr (Or.inl ⟨h2_0, h13_0, rfl, rfl, rfl⟩))  -- end 1: h2_0 : vp_in x1 8 ; h13_0 : ¬ (x1 = 0 ∨ x1 = 1)
  · refine lv_if_ne (tgt := 12) hx hb dX4_restore_5 (by decide) (fun c => absurd c (by decide)) (fun _ => ?_)
    refine lv_iconst (v := 1) hx hb dX4_restore_8 (by decide) ?_
    refine lv_goto (tgt := 24) hx hb dX4_restore_9 (by decide) ?_
    refine g_putI (T := TX4) C hP hS 136 0 (by decide) rfl rfl inwX4 tyX4 tyX4_ok nmX4 (by decide) kf_X4_65 rfl rfl (by decide : 0 < 20) (by simp only [sI, va_up_self]; rfl) dX4_restore_24 (fun H locs hP hS => ?_)
    refine lv_aload_n hx hb dX4_restore_27 rfl (lv_at hl 0 rfl) ?_
    refine g_get (v := .int 1) (T := TX4) C hP 136 0 (by decide) rfl rfl inwX4 (by decide) kf_X4_65 (congrArg (fun z => some (Value.int z)) sI_eq) dX4_restore_28 ?_
    refine lv_if_le (tgt := 36) hx hb dX4_restore_31 (by decide) (fun c => absurd c (by decide)) (fun _ => ?_)
    refine lv_iconst (v := 0) hx hb dX4_restore_34 (by decide) ?_
    exact gM_iret C hr hP hS (by decide) (by decide) dX4_restore_35 (Or.inr (Or.inr ⟨h2_0, rfl, rfl, rfl⟩))  -- end 2: h2_0 : ¬ vp_in x1 8
