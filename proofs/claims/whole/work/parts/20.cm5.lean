def pq_X4_balance (x1 : Int32) (I : MI) (L : ML) : Int64 → MI → ML → Prop := fun r I' L' => (vp_in x1 8 ∧ L 137 x1.toNatClampNeg = r ∧ (sI I 136 0 0) = I' ∧ L = L') ∨ (¬ vp_in x1 8 ∧ (0 : Int64) = r ∧ (sI I 136 0 1) = I' ∧ L = L')
set_option maxRecDepth 100000 in
set_option maxHeartbeats 4000000 in
theorem ct_X4_balance (l : Launch) (D : va_G) (cy : Nat → ClassId) (ad : Nat → Nat) (hJ : gJ ad) (x1 : Int32) (I : MI) (L : ML) : gMl l D cy ad yX4_balance cX4_balance 2 .long (gR 1 0 0) [.ref (ad 136), .int x1] I L (pq_X4_balance x1 I L) := by
  refine gMl_of hJ (by decide +kernel) kc_X4_balance (Nat.le_of_ble_eq_true rfl) (fun p e s m below meth c A ls C hr hP hS hl => ?_)
  have hx := C.hx
  have hb := C.hb
  have hl : lv_has ls 2 [(0, .ref (ad 136)), (1, .int x1)] := hl
  refine lv_aload_n hx hb dX4_balance_0 rfl (lv_at hl 0 rfl) ?_
  refine lv_iload_n hx hb dX4_balance_1 rfl (lv_at hl 1 rfl) ?_
  refine gM_callSi (As := [.int x1]) (rest := [.ref (ad 136)]) C hP hS hl.1 (ct_X4_isOne l D cy ad hJ x1 I L) fa_X4_isOne kl_X4_72 kst_X4_isOne rfl (by decide) (Nat.le_of_ble_eq_true rfl) (by decide) dX4_balance_2 rfl (fun r2 I2 L2 H locs hq hP hS => ?_)
  rcases hq with ⟨h2_0, rfl, rfl, rfl⟩ | ⟨h2_0, rfl, rfl, rfl⟩
  · obtain ⟨e2_0, l2_0⟩ := vp_ix h2_0
    refine lv_if_eq (tgt := 12) hx hb dX4_balance_5 (by decide) (fun c => absurd c (by decide)) (fun _ => ?_)
    refine lv_iconst (v := 0) hx hb dX4_balance_8 (by decide) ?_
    refine lv_goto (tgt := 13) hx hb dX4_balance_9 (by decide) ?_
    refine g_putI (T := TX4) C hP hS 136 0 (by decide) rfl rfl inwX4 tyX4 tyX4_ok nmX4 (by decide) kf_X4_65 rfl rfl (by decide : 0 < 20) (by simp only [sI, va_up_self]; rfl) dX4_balance_13 (fun H locs hP hS => ?_)
    refine lv_aload_n hx hb dX4_balance_16 rfl (lv_at hl 0 rfl) ?_
    refine g_get (v := .int 0) (T := TX4) C hP 136 0 (by decide) rfl rfl inwX4 (by decide) kf_X4_65 (congrArg (fun z => some (Value.int z)) sI_eq) dX4_balance_17 ?_
    refine lv_if_le (tgt := 27) hx hb dX4_balance_20 (by decide) (fun _ => ?_) (fun c => absurd c (by decide))
    refine lv_aload_n hx hb dX4_balance_27 rfl (lv_at hl 0 rfl) ?_
    refine g_get (v := .ref (ad 137)) (T := TX4) C hP 136 1 (by decide) rfl rfl inwX4 (by decide) kf_X4_7 rfl dX4_balance_28 ?_
    refine lv_iload_n hx hb dX4_balance_31 rfl (lv_at hl 1 rfl) ?_
    refine g_lald (v := L 137 x1.toNatClampNeg) C hP 137 8 (by decide) (fun _ _ => rfl) x1.toNatClampNeg e2_0 rfl (by omega) (by decide) dX4_balance_32 ?_
    exact gM_lret C hr hP hS (by decide) (by decide) dX4_balance_33 (Or.inl (⟨h2_0, rfl, rfl, rfl⟩))
  · refine lv_if_eq (tgt := 12) hx hb dX4_balance_5 (by decide) (fun _ => ?_) (fun c => absurd c (by decide))
    refine lv_iconst (v := 1) hx hb dX4_balance_12 (by decide) ?_
    refine g_putI (T := TX4) C hP hS 136 0 (by decide) rfl rfl inwX4 tyX4 tyX4_ok nmX4 (by decide) kf_X4_65 rfl rfl (by decide : 0 < 20) (by simp only [sI, va_up_self]; rfl) dX4_balance_13 (fun H locs hP hS => ?_)
    refine lv_aload_n hx hb dX4_balance_16 rfl (lv_at hl 0 rfl) ?_
    refine g_get (v := .int 1) (T := TX4) C hP 136 0 (by decide) rfl rfl inwX4 (by decide) kf_X4_65 (congrArg (fun z => some (Value.int z)) sI_eq) dX4_balance_17 ?_
    refine lv_if_le (tgt := 27) hx hb dX4_balance_20 (by decide) (fun c => absurd c (by decide)) (fun _ => ?_)
    refine lv_lconst (v := 0) hx hb dX4_balance_23 (by decide) ?_
    refine lv_goto (tgt := 33) hx hb dX4_balance_24 (by decide) ?_
    exact gM_lret C hr hP hS (by decide) (by decide) dX4_balance_33 (Or.inr (⟨h2_0, rfl, rfl, rfl⟩))
def pq_X4_balanceAt (ne : Nat) (lc : Nat → Nat) (x1 : Int32) (x2 : Int32) (I : MI) (L : ML) : Int64 → MI → ML → Prop := fun r I' L' => (vp_in x1 8 ∧ x2 < 0 ∧ (0 : Int64) = r ∧ (sI I 136 0 1) = I' ∧ L = L') ∨ (vp_in x1 8 ∧ ¬ x2 < 0 ∧ (nI ne) < x2 ∧ (0 : Int64) = r ∧ (sI I 136 0 1) = I' ∧ L = L') ∨ (vp_in x1 8 ∧ ¬ x2 < 0 ∧ ¬ (nI ne) < x2 ∧ glg (sI I 136 0 0) lc (L 145) x1.toNatClampNeg x2.toNatClampNeg = r ∧ (sI I 136 0 0) = I' ∧ (gsc (sI I 136 0 0) lc L x2.toNatClampNeg) = L') ∨ (¬ vp_in x1 8 ∧ (0 : Int64) = r ∧ (sI I 136 0 1) = I' ∧ L = L')
set_option maxRecDepth 100000 in
set_option maxHeartbeats 4000000 in
theorem ct_X4_balanceAt (l : Launch) (D : va_G) (cy : Nat → ClassId) (ad : Nat → Nat) (hJ : gJ ad) (ne : Nat) (lc : Nat → Nat) (x1 : Int32) (x2 : Int32) (I : MI) (L : ML) (hme : I 136 9 = nI ne) (hme40 : ne ≤ 40) (hml : ∀ p, p < 10 → I 139 p = nI (lc p)) (hml4 : ∀ p, p < 10 → lc p ≤ 4) (hma : ∀ p, p < 10 → ∀ k, k < lc p → vp_in (I 141 (4 * p + k)) 8) (hmr : ∀ e, e < ne → vp_in (I 144 e) 10) : gMl l D cy ad yX4_balanceAt cX4_balanceAt 3 .long (gR 1 0 0) [.ref (ad 136), .int x1, .int x2] I L (pq_X4_balanceAt ne lc x1 x2 I L) := by
  refine gMl_of hJ (by decide +kernel) kc_X4_balanceAt (Nat.le_of_ble_eq_true rfl) (fun p e s m below meth c A ls C hr hP hS hl => ?_)
  have hx := C.hx
  have hb := C.hb
  have hl : lv_has ls 3 [(0, .ref (ad 136)), (1, .int x1), (2, .int x2)] := hl
  refine lv_aload_n hx hb dX4_balanceAt_0 rfl (lv_at hl 0 rfl) ?_
  refine lv_iload_n hx hb dX4_balanceAt_1 rfl (lv_at hl 1 rfl) ?_
  refine gM_callSi (As := [.int x1]) (rest := [.ref (ad 136)]) C hP hS hl.1 (ct_X4_isOne l D cy ad hJ x1 I L) fa_X4_isOne kl_X4_72 kst_X4_isOne rfl (by decide) (Nat.le_of_ble_eq_true rfl) (by decide) dX4_balanceAt_2 rfl (fun r2 I2 L2 H locs hq hP hS => ?_)
  rcases hq with ⟨h2_0, rfl, rfl, rfl⟩ | ⟨h2_0, rfl, rfl, rfl⟩
  · obtain ⟨e2_0, l2_0⟩ := vp_ix h2_0
    refine lv_if_eq (tgt := 24) hx hb dX4_balanceAt_5 (by decide) (fun c => absurd c (by decide)) (fun _ => ?_)
    refine lv_iload_n hx hb dX4_balanceAt_8 rfl (lv_at hl 2 rfl) ?_
    refine lv_if_lt (tgt := 24) hx hb dX4_balanceAt_9 (by decide) (fun c9 => ?_) (fun c9 => ?_)
    · refine lv_iconst (v := 1) hx hb dX4_balanceAt_24 (by decide) ?_
      refine g_putI (T := TX4) C hP hS 136 0 (by decide) rfl rfl inwX4 tyX4 tyX4_ok nmX4 (by decide) kf_X4_65 rfl rfl (by decide : 0 < 20) (by simp only [sI, va_up_self]; rfl) dX4_balanceAt_25 (fun H locs hP hS => ?_)
      refine lv_aload_n hx hb dX4_balanceAt_28 rfl (lv_at hl 0 rfl) ?_
      refine g_get (v := .int 1) (T := TX4) C hP 136 0 (by decide) rfl rfl inwX4 (by decide) kf_X4_65 (congrArg (fun z => some (Value.int z)) sI_eq) dX4_balanceAt_29 ?_
      refine lv_if_le (tgt := 39) hx hb dX4_balanceAt_32 (by decide) (fun c => absurd c (by decide)) (fun _ => ?_)
      refine lv_lconst (v := 0) hx hb dX4_balanceAt_35 (by decide) ?_
      refine lv_goto (tgt := 45) hx hb dX4_balanceAt_36 (by decide) ?_
      exact gM_lret C hr hP hS (by decide) (by decide) dX4_balanceAt_45 (Or.inl (⟨h2_0, c9, rfl, rfl, rfl⟩))
    · refine lv_iload_n hx hb dX4_balanceAt_12 rfl (lv_at hl 2 rfl) ?_
      refine lv_aload_n hx hb dX4_balanceAt_13 rfl (lv_at hl 0 rfl) ?_
      refine g_get (v := .int (nI ne)) (T := TX4) C hP 136 9 (by decide) rfl rfl inwX4 (by decide) kf_X4_104 (congrArg (fun z => some (Value.int z)) hme) dX4_balanceAt_14 ?_
      refine lv_icmp_gt (tgt := 24) hx hb dX4_balanceAt_17 (by decide) (fun c17 => ?_) (fun c17 => ?_)
      · refine lv_iconst (v := 1) hx hb dX4_balanceAt_24 (by decide) ?_
        refine g_putI (T := TX4) C hP hS 136 0 (by decide) rfl rfl inwX4 tyX4 tyX4_ok nmX4 (by decide) kf_X4_65 rfl rfl (by decide : 0 < 20) (by simp only [sI, va_up_self]; rfl) dX4_balanceAt_25 (fun H locs hP hS => ?_)
        refine lv_aload_n hx hb dX4_balanceAt_28 rfl (lv_at hl 0 rfl) ?_
        refine g_get (v := .int 1) (T := TX4) C hP 136 0 (by decide) rfl rfl inwX4 (by decide) kf_X4_65 (congrArg (fun z => some (Value.int z)) sI_eq) dX4_balanceAt_29 ?_
        refine lv_if_le (tgt := 39) hx hb dX4_balanceAt_32 (by decide) (fun c => absurd c (by decide)) (fun _ => ?_)
        refine lv_lconst (v := 0) hx hb dX4_balanceAt_35 (by decide) ?_
        refine lv_goto (tgt := 45) hx hb dX4_balanceAt_36 (by decide) ?_
        exact gM_lret C hr hP hS (by decide) (by decide) dX4_balanceAt_45 (Or.inr (Or.inl (⟨h2_0, c9, c17, rfl, rfl, rfl⟩)))
      · refine lv_iconst (v := 0) hx hb dX4_balanceAt_20 (by decide) ?_
        refine lv_goto (tgt := 25) hx hb dX4_balanceAt_21 (by decide) ?_
        refine g_putI (T := TX4) C hP hS 136 0 (by decide) rfl rfl inwX4 tyX4 tyX4_ok nmX4 (by decide) kf_X4_65 rfl rfl (by decide : 0 < 20) (by simp only [sI, va_up_self]; rfl) dX4_balanceAt_25 (fun H locs hP hS => ?_)
        refine lv_aload_n hx hb dX4_balanceAt_28 rfl (lv_at hl 0 rfl) ?_
        refine g_get (v := .int 0) (T := TX4) C hP 136 0 (by decide) rfl rfl inwX4 (by decide) kf_X4_65 (congrArg (fun z => some (Value.int z)) sI_eq) dX4_balanceAt_29 ?_
        refine lv_if_le (tgt := 39) hx hb dX4_balanceAt_32 (by decide) (fun _ => ?_) (fun c => absurd c (by decide))
        have v39 : vp_in x2 (ne + 1) := vpA3 c9 c17 (by rw [nI_toInt (by omega)]; rfl)
        obtain ⟨e39, l39⟩ := vp_ix v39
        refine lv_aload_n hx hb dX4_balanceAt_39 rfl (lv_at hl 0 rfl) ?_
        refine lv_iload_n hx hb dX4_balanceAt_40 rfl (lv_at hl 1 rfl) ?_
        refine lv_iload_n hx hb dX4_balanceAt_41 rfl (lv_at hl 2 rfl) ?_
        refine gM_callVl (As := [.int x1, .int x2]) (rest := []) C hP hS hl.1 (ct_X4_logged l D cy ad hJ lc x1.toNatClampNeg x2.toNatClampNeg x1 x2 (sI I 136 0 0) L e2_0 (by omega) e39 (by omega) hml hml4 hma (fun e9 he9 => hmr e9 (by omega))) fa_X4_logged kl_X4_107 ki_X4_logged kse_X4_logged (by decide) (T := TX4) rfl rfl rfl (by decide) (Nat.le_of_ble_eq_true rfl) (by decide) dX4_balanceAt_42 rfl (fun r42 I42 L42 H locs hq hP hS => ?_)
        obtain ⟨hr42, rfl, rfl⟩ := hq
        subst hr42
        exact gM_lret C hr hP hS (by decide) (by decide) dX4_balanceAt_45 (Or.inr (Or.inr (Or.inl (⟨h2_0, c9, c17, rfl, rfl, rfl⟩))))
  · refine lv_if_eq (tgt := 24) hx hb dX4_balanceAt_5 (by decide) (fun _ => ?_) (fun c => absurd c (by decide))
    refine lv_iconst (v := 1) hx hb dX4_balanceAt_24 (by decide) ?_
    refine g_putI (T := TX4) C hP hS 136 0 (by decide) rfl rfl inwX4 tyX4 tyX4_ok nmX4 (by decide) kf_X4_65 rfl rfl (by decide : 0 < 20) (by simp only [sI, va_up_self]; rfl) dX4_balanceAt_25 (fun H locs hP hS => ?_)
    refine lv_aload_n hx hb dX4_balanceAt_28 rfl (lv_at hl 0 rfl) ?_
    refine g_get (v := .int 1) (T := TX4) C hP 136 0 (by decide) rfl rfl inwX4 (by decide) kf_X4_65 (congrArg (fun z => some (Value.int z)) sI_eq) dX4_balanceAt_29 ?_
    refine lv_if_le (tgt := 39) hx hb dX4_balanceAt_32 (by decide) (fun c => absurd c (by decide)) (fun _ => ?_)
    refine lv_lconst (v := 0) hx hb dX4_balanceAt_35 (by decide) ?_
    refine lv_goto (tgt := 45) hx hb dX4_balanceAt_36 (by decide) ?_
    exact gM_lret C hr hP hS (by decide) (by decide) dX4_balanceAt_45 (Or.inr (Or.inr (Or.inr (⟨h2_0, rfl, rfl, rfl⟩))))
def pq_X4_entries (ne : Nat) (I : MI) (L : ML) : Int32 → MI → ML → Prop := fun r I' L' => (nI ne = r ∧ (sI I 136 0 0) = I' ∧ L = L')
set_option maxRecDepth 100000 in
set_option maxHeartbeats 4000000 in
theorem ct_X4_entries (l : Launch) (D : va_G) (cy : Nat → ClassId) (ad : Nat → Nat) (hJ : gJ ad) (ne : Nat) (I : MI) (L : ML) (hme : I 136 9 = nI ne) (hme40 : ne ≤ 40) : gMi l D cy ad yX4_entries cX4_entries 1 .int (gR 1 0 0) [.ref (ad 136)] I L (pq_X4_entries ne I L) := by
  refine gMi_of hJ (by decide +kernel) kc_X4_entries (Nat.le_of_ble_eq_true rfl) (fun p e s m below meth c A ls C hr hP hS hl => ?_)
  have hx := C.hx
  have hb := C.hb
  have hl : lv_has ls 1 [(0, .ref (ad 136))] := hl
  refine lv_aload_n hx hb dX4_entries_0 rfl (lv_at hl 0 rfl) ?_
  refine lv_iconst (v := 0) hx hb dX4_entries_1 (by decide) ?_
  refine g_putI (T := TX4) C hP hS 136 0 (by decide) rfl rfl inwX4 tyX4 tyX4_ok nmX4 (by decide) kf_X4_65 rfl rfl (by decide : 0 < 20) (by simp only [sI, va_up_self]; rfl) dX4_entries_2 (fun H locs hP hS => ?_)
  refine lv_aload_n hx hb dX4_entries_5 rfl (lv_at hl 0 rfl) ?_
  refine g_get (v := .int (nI ne)) (T := TX4) C hP 136 9 (by decide) rfl rfl inwX4 (by decide) kf_X4_104 (congrArg (fun z => some (Value.int z)) ((sI_ne (by decide)).trans hme)) dX4_entries_6 ?_
  exact gM_iret C hr hP hS (by decide) (by decide) dX4_entries_9 (⟨rfl, rfl, rfl⟩)
def pq_X4_entry (ne : Nat) (x1 : Int32) (x2 : Int32) (I : MI) (L : ML) : Int32 → MI → ML → Prop := fun r I' L' => (vp_in x1 ne ∧ x2 < 0 ∧ (0 : Int32) = r ∧ (sI I 136 0 1) = I' ∧ L = L') ∨ (vp_in x1 ne ∧ ¬ x2 < 0 ∧ 4 < x2 ∧ (0 : Int32) = r ∧ (sI I 136 0 1) = I' ∧ L = L') ∨ (vp_in x1 ne ∧ ¬ x2 < 0 ∧ ¬ 4 < x2 ∧ ¬ x2 = 0 ∧ ¬ x2 = 1 ∧ ¬ x2 = 2 ∧ ¬ x2 = 3 ∧ I 149 x1.toNatClampNeg = r ∧ (sI I 136 0 0) = I' ∧ L = L') ∨ (vp_in x1 ne ∧ ¬ x2 < 0 ∧ ¬ 4 < x2 ∧ ¬ x2 = 0 ∧ ¬ x2 = 1 ∧ ¬ x2 = 2 ∧ x2 = 3 ∧ I 148 x1.toNatClampNeg = r ∧ (sI I 136 0 0) = I' ∧ L = L') ∨ (vp_in x1 ne ∧ ¬ x2 < 0 ∧ ¬ 4 < x2 ∧ ¬ x2 = 0 ∧ ¬ x2 = 1 ∧ x2 = 2 ∧ I 147 x1.toNatClampNeg = r ∧ (sI I 136 0 0) = I' ∧ L = L') ∨ (vp_in x1 ne ∧ ¬ x2 < 0 ∧ ¬ 4 < x2 ∧ ¬ x2 = 0 ∧ x2 = 1 ∧ I 146 x1.toNatClampNeg = r ∧ (sI I 136 0 0) = I' ∧ L = L') ∨ (vp_in x1 ne ∧ ¬ x2 < 0 ∧ ¬ 4 < x2 ∧ x2 = 0 ∧ I 144 x1.toNatClampNeg = r ∧ (sI I 136 0 0) = I' ∧ L = L') ∨ (¬ vp_in x1 ne ∧ (0 : Int32) = r ∧ (sI I 136 0 1) = I' ∧ L = L')
set_option maxRecDepth 100000 in
set_option maxHeartbeats 4000000 in
theorem ct_X4_entry (l : Launch) (D : va_G) (cy : Nat → ClassId) (ad : Nat → Nat) (hJ : gJ ad) (ne : Nat) (x1 : Int32) (x2 : Int32) (I : MI) (L : ML) (hme : I 136 9 = nI ne) (hme40 : ne ≤ 40) : gMi l D cy ad yX4_entry cX4_entry 3 .int (gR 1 0 0) [.ref (ad 136), .int x1, .int x2] I L (pq_X4_entry ne x1 x2 I L) := by
  refine gMi_of hJ (by decide +kernel) kc_X4_entry (Nat.le_of_ble_eq_true rfl) (fun p e s m below meth c A ls C hr hP hS hl => ?_)
  have hx := C.hx
  have hb := C.hb
  have hl : lv_has ls 3 [(0, .ref (ad 136)), (1, .int x1), (2, .int x2)] := hl
  refine lv_aload_n hx hb dX4_entry_0 rfl (lv_at hl 0 rfl) ?_
  refine lv_aload_n hx hb dX4_entry_1 rfl (lv_at hl 0 rfl) ?_
  refine lv_iload_n hx hb dX4_entry_2 rfl (lv_at hl 1 rfl) ?_
  refine gM_callVi (As := [.int x1]) (rest := [.ref (ad 136)]) C hP hS hl.1 (ct_X4_isEntry l D cy ad hJ ne x1 I L hme hme40) fa_X4_isEntry kl_X4_143 ki_X4_isEntry kse_X4_isEntry (by decide) (T := TX4) rfl rfl rfl (by decide) (Nat.le_of_ble_eq_true rfl) (by decide) dX4_entry_3 rfl (fun r3 I3 L3 H locs hq hP hS => ?_)
  rcases hq with ⟨h3_0, rfl, rfl, rfl⟩ | ⟨h3_0, rfl, rfl, rfl⟩
  · obtain ⟨e3_0, l3_0⟩ := vp_ix h3_0
    refine lv_if_eq (tgt := 22) hx hb dX4_entry_6 (by decide) (fun c => absurd c (by decide)) (fun _ => ?_)
    refine lv_iload_n hx hb dX4_entry_9 rfl (lv_at hl 2 rfl) ?_
    refine lv_if_lt (tgt := 22) hx hb dX4_entry_10 (by decide) (fun c10 => ?_) (fun c10 => ?_)
    · refine lv_iconst (v := 1) hx hb dX4_entry_22 (by decide) ?_
      refine g_putI (T := TX4) C hP hS 136 0 (by decide) rfl rfl inwX4 tyX4 tyX4_ok nmX4 (by decide) kf_X4_65 rfl rfl (by decide : 0 < 20) (by simp only [sI, va_up_self]; rfl) dX4_entry_23 (fun H locs hP hS => ?_)
      refine lv_aload_n hx hb dX4_entry_26 rfl (lv_at hl 0 rfl) ?_
      refine g_get (v := .int 1) (T := TX4) C hP 136 0 (by decide) rfl rfl inwX4 (by decide) kf_X4_65 (congrArg (fun z => some (Value.int z)) sI_eq) dX4_entry_27 ?_
      refine lv_if_le (tgt := 35) hx hb dX4_entry_30 (by decide) (fun c => absurd c (by decide)) (fun _ => ?_)
      refine lv_iconst (v := 0) hx hb dX4_entry_33 (by decide) ?_
      exact gM_iret C hr hP hS (by decide) (by decide) dX4_entry_34 (Or.inl (⟨h3_0, c10, rfl, rfl, rfl⟩))
    · refine lv_iload_n hx hb dX4_entry_13 rfl (lv_at hl 2 rfl) ?_
      refine lv_iconst (v := 4) hx hb dX4_entry_14 (by decide) ?_
      refine lv_icmp_gt (tgt := 22) hx hb dX4_entry_15 (by decide) (fun c15 => ?_) (fun c15 => ?_)
      · refine lv_iconst (v := 1) hx hb dX4_entry_22 (by decide) ?_
        refine g_putI (T := TX4) C hP hS 136 0 (by decide) rfl rfl inwX4 tyX4 tyX4_ok nmX4 (by decide) kf_X4_65 rfl rfl (by decide : 0 < 20) (by simp only [sI, va_up_self]; rfl) dX4_entry_23 (fun H locs hP hS => ?_)
        refine lv_aload_n hx hb dX4_entry_26 rfl (lv_at hl 0 rfl) ?_
        refine g_get (v := .int 1) (T := TX4) C hP 136 0 (by decide) rfl rfl inwX4 (by decide) kf_X4_65 (congrArg (fun z => some (Value.int z)) sI_eq) dX4_entry_27 ?_
        refine lv_if_le (tgt := 35) hx hb dX4_entry_30 (by decide) (fun c => absurd c (by decide)) (fun _ => ?_)
        refine lv_iconst (v := 0) hx hb dX4_entry_33 (by decide) ?_
        exact gM_iret C hr hP hS (by decide) (by decide) dX4_entry_34 (Or.inr (Or.inl (⟨h3_0, c10, c15, rfl, rfl, rfl⟩)))
      · refine lv_iconst (v := 0) hx hb dX4_entry_18 (by decide) ?_
        refine lv_goto (tgt := 23) hx hb dX4_entry_19 (by decide) ?_
        refine g_putI (T := TX4) C hP hS 136 0 (by decide) rfl rfl inwX4 tyX4 tyX4_ok nmX4 (by decide) kf_X4_65 rfl rfl (by decide : 0 < 20) (by simp only [sI, va_up_self]; rfl) dX4_entry_23 (fun H locs hP hS => ?_)
        refine lv_aload_n hx hb dX4_entry_26 rfl (lv_at hl 0 rfl) ?_
        refine g_get (v := .int 0) (T := TX4) C hP 136 0 (by decide) rfl rfl inwX4 (by decide) kf_X4_65 (congrArg (fun z => some (Value.int z)) sI_eq) dX4_entry_27 ?_
        refine lv_if_le (tgt := 35) hx hb dX4_entry_30 (by decide) (fun _ => ?_) (fun c => absurd c (by decide))
        refine lv_iload_n hx hb dX4_entry_35 rfl (lv_at hl 2 rfl) ?_
        refine lv_if_ne (tgt := 48) hx hb dX4_entry_36 (by decide) (fun c36 => ?_) (fun c36 => ?_)
        · refine lv_iload_n hx hb dX4_entry_48 rfl (lv_at hl 2 rfl) ?_
          refine lv_iconst (v := 1) hx hb dX4_entry_49 (by decide) ?_
          refine lv_icmp_ne (tgt := 62) hx hb dX4_entry_50 (by decide) (fun c50 => ?_) (fun c50 => ?_)
          · refine lv_iload_n hx hb dX4_entry_62 rfl (lv_at hl 2 rfl) ?_
            refine lv_iconst (v := 2) hx hb dX4_entry_63 (by decide) ?_
            refine lv_icmp_ne (tgt := 76) hx hb dX4_entry_64 (by decide) (fun c64 => ?_) (fun c64 => ?_)
            · refine lv_iload_n hx hb dX4_entry_76 rfl (lv_at hl 2 rfl) ?_
              refine lv_iconst (v := 3) hx hb dX4_entry_77 (by decide) ?_
              refine lv_icmp_ne (tgt := 90) hx hb dX4_entry_78 (by decide) (fun c78 => ?_) (fun c78 => ?_)
              · refine lv_aload_n hx hb dX4_entry_90 rfl (lv_at hl 0 rfl) ?_
                refine g_get (v := .ref (ad 149)) (T := TX4) C hP 136 15 (by decide) rfl rfl inwX4 (by decide) kf_X4_48 rfl dX4_entry_91 ?_
                refine lv_iload_n hx hb dX4_entry_94 rfl (lv_at hl 1 rfl) ?_
                refine g_iald (v := I 149 x1.toNatClampNeg) C hP 149 40 (by decide) (fun _ _ => rfl) x1.toNatClampNeg e3_0 (congrFun (sI_row (by decide)) _) (by omega) (by decide) dX4_entry_95 ?_
                exact gM_iret C hr hP hS (by decide) (by decide) dX4_entry_96 (Or.inr (Or.inr (Or.inl (⟨h3_0, c10, c15, c36, c50, c64, c78, rfl, rfl, rfl⟩))))
              · refine lv_aload_n hx hb dX4_entry_81 rfl (lv_at hl 0 rfl) ?_
                refine g_get (v := .ref (ad 148)) (T := TX4) C hP 136 14 (by decide) rfl rfl inwX4 (by decide) kf_X4_45 rfl dX4_entry_82 ?_
                refine lv_iload_n hx hb dX4_entry_85 rfl (lv_at hl 1 rfl) ?_
                refine g_iald (v := I 148 x1.toNatClampNeg) C hP 148 40 (by decide) (fun _ _ => rfl) x1.toNatClampNeg e3_0 (congrFun (sI_row (by decide)) _) (by omega) (by decide) dX4_entry_86 ?_
                refine lv_goto (tgt := 96) hx hb dX4_entry_87 (by decide) ?_
                exact gM_iret C hr hP hS (by decide) (by decide) dX4_entry_96 (Or.inr (Or.inr (Or.inr (Or.inl (⟨h3_0, c10, c15, c36, c50, c64, c78, rfl, rfl, rfl⟩)))))
            · refine lv_aload_n hx hb dX4_entry_67 rfl (lv_at hl 0 rfl) ?_
              refine g_get (v := .ref (ad 147)) (T := TX4) C hP 136 13 (by decide) rfl rfl inwX4 (by decide) kf_X4_42 rfl dX4_entry_68 ?_
              refine lv_iload_n hx hb dX4_entry_71 rfl (lv_at hl 1 rfl) ?_
              refine g_iald (v := I 147 x1.toNatClampNeg) C hP 147 40 (by decide) (fun _ _ => rfl) x1.toNatClampNeg e3_0 (congrFun (sI_row (by decide)) _) (by omega) (by decide) dX4_entry_72 ?_
              refine lv_goto (tgt := 96) hx hb dX4_entry_73 (by decide) ?_
              exact gM_iret C hr hP hS (by decide) (by decide) dX4_entry_96 (Or.inr (Or.inr (Or.inr (Or.inr (Or.inl (⟨h3_0, c10, c15, c36, c50, c64, rfl, rfl, rfl⟩))))))
          · refine lv_aload_n hx hb dX4_entry_53 rfl (lv_at hl 0 rfl) ?_
            refine g_get (v := .ref (ad 146)) (T := TX4) C hP 136 12 (by decide) rfl rfl inwX4 (by decide) kf_X4_39 rfl dX4_entry_54 ?_
            refine lv_iload_n hx hb dX4_entry_57 rfl (lv_at hl 1 rfl) ?_
            refine g_iald (v := I 146 x1.toNatClampNeg) C hP 146 40 (by decide) (fun _ _ => rfl) x1.toNatClampNeg e3_0 (congrFun (sI_row (by decide)) _) (by omega) (by decide) dX4_entry_58 ?_
            refine lv_goto (tgt := 96) hx hb dX4_entry_59 (by decide) ?_
            exact gM_iret C hr hP hS (by decide) (by decide) dX4_entry_96 (Or.inr (Or.inr (Or.inr (Or.inr (Or.inr (Or.inl (⟨h3_0, c10, c15, c36, c50, rfl, rfl, rfl⟩)))))))
        · refine lv_aload_n hx hb dX4_entry_39 rfl (lv_at hl 0 rfl) ?_
          refine g_get (v := .ref (ad 144)) (T := TX4) C hP 136 10 (by decide) rfl rfl inwX4 (by decide) kf_X4_33 rfl dX4_entry_40 ?_
          refine lv_iload_n hx hb dX4_entry_43 rfl (lv_at hl 1 rfl) ?_
          refine g_iald (v := I 144 x1.toNatClampNeg) C hP 144 40 (by decide) (fun _ _ => rfl) x1.toNatClampNeg e3_0 (congrFun (sI_row (by decide)) _) (by omega) (by decide) dX4_entry_44 ?_
          refine lv_goto (tgt := 96) hx hb dX4_entry_45 (by decide) ?_
          exact gM_iret C hr hP hS (by decide) (by decide) dX4_entry_96 (Or.inr (Or.inr (Or.inr (Or.inr (Or.inr (Or.inr (Or.inl (⟨h3_0, c10, c15, c36, rfl, rfl, rfl⟩))))))))
  · refine lv_if_eq (tgt := 22) hx hb dX4_entry_6 (by decide) (fun _ => ?_) (fun c => absurd c (by decide))
    refine lv_iconst (v := 1) hx hb dX4_entry_22 (by decide) ?_
    refine g_putI (T := TX4) C hP hS 136 0 (by decide) rfl rfl inwX4 tyX4 tyX4_ok nmX4 (by decide) kf_X4_65 rfl rfl (by decide : 0 < 20) (by simp only [sI, va_up_self]; rfl) dX4_entry_23 (fun H locs hP hS => ?_)
    refine lv_aload_n hx hb dX4_entry_26 rfl (lv_at hl 0 rfl) ?_
    refine g_get (v := .int 1) (T := TX4) C hP 136 0 (by decide) rfl rfl inwX4 (by decide) kf_X4_65 (congrArg (fun z => some (Value.int z)) sI_eq) dX4_entry_27 ?_
    refine lv_if_le (tgt := 35) hx hb dX4_entry_30 (by decide) (fun c => absurd c (by decide)) (fun _ => ?_)
    refine lv_iconst (v := 0) hx hb dX4_entry_33 (by decide) ?_
    exact gM_iret C hr hP hS (by decide) (by decide) dX4_entry_34 (Or.inr (Or.inr (Or.inr (Or.inr (Or.inr (Or.inr (Or.inr (⟨h3_0, rfl, rfl, rfl⟩))))))))
def pq_X4_amount (ne : Nat) (x1 : Int32) (I : MI) (L : ML) : Int64 → MI → ML → Prop := fun r I' L' => (vp_in x1 ne ∧ L 145 x1.toNatClampNeg = r ∧ (sI I 136 0 0) = I' ∧ L = L') ∨ (¬ vp_in x1 ne ∧ (0 : Int64) = r ∧ (sI I 136 0 1) = I' ∧ L = L')
set_option maxRecDepth 100000 in
set_option maxHeartbeats 4000000 in
theorem ct_X4_amount (l : Launch) (D : va_G) (cy : Nat → ClassId) (ad : Nat → Nat) (hJ : gJ ad) (ne : Nat) (x1 : Int32) (I : MI) (L : ML) (hme : I 136 9 = nI ne) (hme40 : ne ≤ 40) : gMl l D cy ad yX4_amount cX4_amount 2 .long (gR 1 0 0) [.ref (ad 136), .int x1] I L (pq_X4_amount ne x1 I L) := by
  refine gMl_of hJ (by decide +kernel) kc_X4_amount (Nat.le_of_ble_eq_true rfl) (fun p e s m below meth c A ls C hr hP hS hl => ?_)
  have hx := C.hx
  have hb := C.hb
  have hl : lv_has ls 2 [(0, .ref (ad 136)), (1, .int x1)] := hl
  refine lv_aload_n hx hb dX4_amount_0 rfl (lv_at hl 0 rfl) ?_
  refine lv_aload_n hx hb dX4_amount_1 rfl (lv_at hl 0 rfl) ?_
  refine lv_iload_n hx hb dX4_amount_2 rfl (lv_at hl 1 rfl) ?_
  refine gM_callVi (As := [.int x1]) (rest := [.ref (ad 136)]) C hP hS hl.1 (ct_X4_isEntry l D cy ad hJ ne x1 I L hme hme40) fa_X4_isEntry kl_X4_143 ki_X4_isEntry kse_X4_isEntry (by decide) (T := TX4) rfl rfl rfl (by decide) (Nat.le_of_ble_eq_true rfl) (by decide) dX4_amount_3 rfl (fun r3 I3 L3 H locs hq hP hS => ?_)
  rcases hq with ⟨h3_0, rfl, rfl, rfl⟩ | ⟨h3_0, rfl, rfl, rfl⟩
  · obtain ⟨e3_0, l3_0⟩ := vp_ix h3_0
    refine lv_if_eq (tgt := 13) hx hb dX4_amount_6 (by decide) (fun c => absurd c (by decide)) (fun _ => ?_)
    refine lv_iconst (v := 0) hx hb dX4_amount_9 (by decide) ?_
    refine lv_goto (tgt := 14) hx hb dX4_amount_10 (by decide) ?_
    refine g_putI (T := TX4) C hP hS 136 0 (by decide) rfl rfl inwX4 tyX4 tyX4_ok nmX4 (by decide) kf_X4_65 rfl rfl (by decide : 0 < 20) (by simp only [sI, va_up_self]; rfl) dX4_amount_14 (fun H locs hP hS => ?_)
    refine lv_aload_n hx hb dX4_amount_17 rfl (lv_at hl 0 rfl) ?_
    refine g_get (v := .int 0) (T := TX4) C hP 136 0 (by decide) rfl rfl inwX4 (by decide) kf_X4_65 (congrArg (fun z => some (Value.int z)) sI_eq) dX4_amount_18 ?_
    refine lv_if_le (tgt := 28) hx hb dX4_amount_21 (by decide) (fun _ => ?_) (fun c => absurd c (by decide))
    refine lv_aload_n hx hb dX4_amount_28 rfl (lv_at hl 0 rfl) ?_
    refine g_get (v := .ref (ad 145)) (T := TX4) C hP 136 11 (by decide) rfl rfl inwX4 (by decide) kf_X4_36 rfl dX4_amount_29 ?_
    refine lv_iload_n hx hb dX4_amount_32 rfl (lv_at hl 1 rfl) ?_
    refine g_lald (v := L 145 x1.toNatClampNeg) C hP 145 40 (by decide) (fun _ _ => rfl) x1.toNatClampNeg e3_0 rfl (by omega) (by decide) dX4_amount_33 ?_
    exact gM_lret C hr hP hS (by decide) (by decide) dX4_amount_34 (Or.inl (⟨h3_0, rfl, rfl, rfl⟩))
  · refine lv_if_eq (tgt := 13) hx hb dX4_amount_6 (by decide) (fun _ => ?_) (fun c => absurd c (by decide))
    refine lv_iconst (v := 1) hx hb dX4_amount_13 (by decide) ?_
    refine g_putI (T := TX4) C hP hS 136 0 (by decide) rfl rfl inwX4 tyX4 tyX4_ok nmX4 (by decide) kf_X4_65 rfl rfl (by decide : 0 < 20) (by simp only [sI, va_up_self]; rfl) dX4_amount_14 (fun H locs hP hS => ?_)
    refine lv_aload_n hx hb dX4_amount_17 rfl (lv_at hl 0 rfl) ?_
    refine g_get (v := .int 1) (T := TX4) C hP 136 0 (by decide) rfl rfl inwX4 (by decide) kf_X4_65 (congrArg (fun z => some (Value.int z)) sI_eq) dX4_amount_18 ?_
    refine lv_if_le (tgt := 28) hx hb dX4_amount_21 (by decide) (fun c => absurd c (by decide)) (fun _ => ?_)
    refine lv_lconst (v := 0) hx hb dX4_amount_24 (by decide) ?_
    refine lv_goto (tgt := 34) hx hb dX4_amount_25 (by decide) ?_
    exact gM_lret C hr hP hS (by decide) (by decide) dX4_amount_34 (Or.inr (⟨h3_0, rfl, rfl, rfl⟩))
def pq_X4_requested (x1 : Int32) (I : MI) (L : ML) : Int32 → MI → ML → Prop := fun r I' L' => (x1 < 0 ∧ (0 : Int32) = r ∧ (sI I 136 0 1) = I' ∧ L = L') ∨ (¬ x1 < 0 ∧ 6 ≤ x1 ∧ (0 : Int32) = r ∧ (sI I 136 0 1) = I' ∧ L = L') ∨ (¬ x1 < 0 ∧ ¬ 6 ≤ x1 ∧ I 150 x1.toNatClampNeg = r ∧ (sI I 136 0 0) = I' ∧ L = L')
set_option maxRecDepth 100000 in
set_option maxHeartbeats 4000000 in
theorem ct_X4_requested (l : Launch) (D : va_G) (cy : Nat → ClassId) (ad : Nat → Nat) (hJ : gJ ad) (x1 : Int32) (I : MI) (L : ML) : gMi l D cy ad yX4_requested cX4_requested 2 .int (gR 1 0 0) [.ref (ad 136), .int x1] I L (pq_X4_requested x1 I L) := by
  refine gMi_of hJ (by decide +kernel) kc_X4_requested (Nat.le_of_ble_eq_true rfl) (fun p e s m below meth c A ls C hr hP hS hl => ?_)
  have hx := C.hx
  have hb := C.hb
  have hl : lv_has ls 2 [(0, .ref (ad 136)), (1, .int x1)] := hl
  refine lv_aload_n hx hb dX4_requested_0 rfl (lv_at hl 0 rfl) ?_
  refine lv_iload_n hx hb dX4_requested_1 rfl (lv_at hl 1 rfl) ?_
  refine lv_if_lt (tgt := 15) hx hb dX4_requested_2 (by decide) (fun c2 => ?_) (fun c2 => ?_)
  · refine lv_iconst (v := 1) hx hb dX4_requested_15 (by decide) ?_
    refine g_putI (T := TX4) C hP hS 136 0 (by decide) rfl rfl inwX4 tyX4 tyX4_ok nmX4 (by decide) kf_X4_65 rfl rfl (by decide : 0 < 20) (by simp only [sI, va_up_self]; rfl) dX4_requested_16 (fun H locs hP hS => ?_)
    refine lv_aload_n hx hb dX4_requested_19 rfl (lv_at hl 0 rfl) ?_
    refine g_get (v := .int 1) (T := TX4) C hP 136 0 (by decide) rfl rfl inwX4 (by decide) kf_X4_65 (congrArg (fun z => some (Value.int z)) sI_eq) dX4_requested_20 ?_
    refine lv_if_le (tgt := 30) hx hb dX4_requested_23 (by decide) (fun c => absurd c (by decide)) (fun _ => ?_)
    refine lv_iconst (v := 0) hx hb dX4_requested_26 (by decide) ?_
    refine lv_goto (tgt := 36) hx hb dX4_requested_27 (by decide) ?_
    exact gM_iret C hr hP hS (by decide) (by decide) dX4_requested_36 (Or.inl (⟨c2, rfl, rfl, rfl⟩))
  · refine lv_iload_n hx hb dX4_requested_5 rfl (lv_at hl 1 rfl) ?_
    refine lv_bipush (v := 6) hx hb dX4_requested_6 (by decide) ?_
    refine lv_icmp_ge (tgt := 15) hx hb dX4_requested_8 (by decide) (fun c8 => ?_) (fun c8 => ?_)
    · refine lv_iconst (v := 1) hx hb dX4_requested_15 (by decide) ?_
      refine g_putI (T := TX4) C hP hS 136 0 (by decide) rfl rfl inwX4 tyX4 tyX4_ok nmX4 (by decide) kf_X4_65 rfl rfl (by decide : 0 < 20) (by simp only [sI, va_up_self]; rfl) dX4_requested_16 (fun H locs hP hS => ?_)
      refine lv_aload_n hx hb dX4_requested_19 rfl (lv_at hl 0 rfl) ?_
      refine g_get (v := .int 1) (T := TX4) C hP 136 0 (by decide) rfl rfl inwX4 (by decide) kf_X4_65 (congrArg (fun z => some (Value.int z)) sI_eq) dX4_requested_20 ?_
      refine lv_if_le (tgt := 30) hx hb dX4_requested_23 (by decide) (fun c => absurd c (by decide)) (fun _ => ?_)
      refine lv_iconst (v := 0) hx hb dX4_requested_26 (by decide) ?_
      refine lv_goto (tgt := 36) hx hb dX4_requested_27 (by decide) ?_
      exact gM_iret C hr hP hS (by decide) (by decide) dX4_requested_36 (Or.inr (Or.inl (⟨c2, c8, rfl, rfl, rfl⟩)))
    · refine lv_iconst (v := 0) hx hb dX4_requested_11 (by decide) ?_
      refine lv_goto (tgt := 16) hx hb dX4_requested_12 (by decide) ?_
      refine g_putI (T := TX4) C hP hS 136 0 (by decide) rfl rfl inwX4 tyX4 tyX4_ok nmX4 (by decide) kf_X4_65 rfl rfl (by decide : 0 < 20) (by simp only [sI, va_up_self]; rfl) dX4_requested_16 (fun H locs hP hS => ?_)
      refine lv_aload_n hx hb dX4_requested_19 rfl (lv_at hl 0 rfl) ?_
      refine g_get (v := .int 0) (T := TX4) C hP 136 0 (by decide) rfl rfl inwX4 (by decide) kf_X4_65 (congrArg (fun z => some (Value.int z)) sI_eq) dX4_requested_20 ?_
      refine lv_if_le (tgt := 30) hx hb dX4_requested_23 (by decide) (fun _ => ?_) (fun c => absurd c (by decide))
      have v30 : vp_in x1 6 := vpA c2 c8 rfl
      obtain ⟨e30, l30⟩ := vp_ix v30
      refine lv_aload_n hx hb dX4_requested_30 rfl (lv_at hl 0 rfl) ?_
      refine g_get (v := .ref (ad 150)) (T := TX4) C hP 136 16 (by decide) rfl rfl inwX4 (by decide) kf_X4_51 rfl dX4_requested_31 ?_
      refine lv_iload_n hx hb dX4_requested_34 rfl (lv_at hl 1 rfl) ?_
      refine g_iald (v := I 150 x1.toNatClampNeg) C hP 150 6 (by decide) (fun _ _ => rfl) x1.toNatClampNeg e30 (congrFun (sI_row (by decide)) _) (by omega) (by decide) dX4_requested_35 ?_
      exact gM_iret C hr hP hS (by decide) (by decide) dX4_requested_36 (Or.inr (Or.inr (⟨c2, c8, rfl, rfl, rfl⟩)))
