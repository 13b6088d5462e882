def pq_X4_isOne (x0 : Int32) (I : MI) (L : ML) : Int32 → MI → ML → Prop := fun r I' L' => (vp_in x0 8 ∧ 1 = r ∧ I = I' ∧ L = L') ∨ (¬ vp_in x0 8 ∧ 0 = r ∧ I = I' ∧ L = L')
set_option maxRecDepth 100000 in
set_option maxHeartbeats 4000000 in
theorem ct_X4_isOne (l : Launch) (D : va_G) (cy : Nat → ClassId) (ad : Nat → Nat) (hJ : gJ ad) (x0 : Int32) (I : MI) (L : ML) : gMi l D cy ad yX4_isOne cX4_isOne 1 .boolean (gR 5 0 0) [.int x0] I L (pq_X4_isOne x0 I L) := by
  refine gMi_of hJ (by decide +kernel) kc_X4_isOne (Nat.le_of_ble_eq_true rfl) (fun p e s m below meth c A ls C hr hP hS hl => ?_)
  have hx := C.hx
  have hb := C.hb
  have hl : lv_has ls 1 [(0, .int x0)] := hl
  refine lv_iload_n hx hb dX4_isOne_0 rfl (lv_at hl 0 rfl) ?_
  refine lv_if_lt (tgt := 14) hx hb dX4_isOne_1 (by decide) (fun c1 => ?_) (fun c1 => ?_)
  · refine lv_iconst (v := 0) hx hb dX4_isOne_14 (by decide) ?_
    exact gM_zret C hr narrow_b0 hP hS (by decide) (by decide) dX4_isOne_15 (Or.inr ⟨vpC c1, rfl, rfl, rfl⟩)  -- end 0: c1 : x0 < 0
  · refine lv_iload_n hx hb dX4_isOne_4 rfl (lv_at hl 0 rfl) ?_
    refine lv_bipush (v := 7) hx hb dX4_isOne_5 (by decide) ?_
    refine lv_icmp_gt (tgt := 14) hx hb dX4_isOne_7 (by decide) (fun c7 => ?_) (fun c7 => ?_)
    · refine lv_iconst (v := 0) hx hb dX4_isOne_14 (by decide) ?_
      exact gM_zret C hr narrow_b0 hP hS (by decide) (by decide) dX4_isOne_15 (Or.inr ⟨vpB3 c7 rfl, rfl, rfl, rfl⟩)  -- end 1: c1 : ¬ x0 < 0 ; c7 : 7 < x0
    · refine lv_iconst (v := 1) hx hb dX4_isOne_10 (by decide) ?_
      refine lv_goto (tgt := 15) hx hb dX4_isOne_11 (by decide) ?_
      exact gM_zret C hr narrow_b1 hP hS (by decide) (by decide) dX4_isOne_15 (Or.inl ⟨vpA3 c1 c7 rfl, rfl, rfl, rfl⟩)  -- end 2: c1 : ¬ x0 < 0 ; c7 : ¬ 7 < x0
def pq_X4_isProcedure (np : Nat) (x1 : Int32) (I : MI) (L : ML) : Int32 → MI → ML → Prop := fun r I' L' => (vp_in x1 np ∧ 1 = r ∧ I = I' ∧ L = L') ∨ (¬ vp_in x1 np ∧ 0 = r ∧ I = I' ∧ L = L')
set_option maxRecDepth 100000 in
set_option maxHeartbeats 4000000 in
theorem ct_X4_isProcedure (l : Launch) (D : va_G) (cy : Nat → ClassId) (ad : Nat → Nat) (hJ : gJ ad) (np : Nat) (x1 : Int32) (I : MI) (L : ML) (hmp : I 136 3 = nI np) (hmp10 : np ≤ 10) : gMi l D cy ad yX4_isProcedure cX4_isProcedure 2 .boolean (gR 5 0 0) [.ref (ad 136), .int x1] I L (pq_X4_isProcedure np x1 I L) := by
  refine gMi_of hJ (by decide +kernel) kc_X4_isProcedure (Nat.le_of_ble_eq_true rfl) (fun p e s m below meth c A ls C hr hP hS hl => ?_)
  have hx := C.hx
  have hb := C.hb
  have hl : lv_has ls 2 [(0, .ref (ad 136)), (1, .int x1)] := hl
  refine lv_iload_n hx hb dX4_isProcedure_0 rfl (lv_at hl 1 rfl) ?_
  refine lv_if_lt (tgt := 16) hx hb dX4_isProcedure_1 (by decide) (fun c1 => ?_) (fun c1 => ?_)
  · refine lv_iconst (v := 0) hx hb dX4_isProcedure_16 (by decide) ?_
    exact gM_zret C hr narrow_b0 hP hS (by decide) (by decide) dX4_isProcedure_17 (Or.inr ⟨vpC c1, rfl, rfl, rfl⟩)  -- end 0: c1 : x1 < 0
  · refine lv_iload_n hx hb dX4_isProcedure_4 rfl (lv_at hl 1 rfl) ?_
    refine lv_aload_n hx hb dX4_isProcedure_5 rfl (lv_at hl 0 rfl) ?_
    refine g_get (v := .int (nI np)) (T := TX4) C hP 136 3 (by decide) rfl rfl inwX4 (by decide) kf_X4_69 (congrArg (fun z => some (Value.int z)) hmp) dX4_isProcedure_6 ?_
    refine lv_icmp_ge (tgt := 16) hx hb dX4_isProcedure_9 (by decide) (fun c9 => ?_) (fun c9 => ?_)
    · refine lv_iconst (v := 0) hx hb dX4_isProcedure_16 (by decide) ?_
      exact gM_zret C hr narrow_b0 hP hS (by decide) (by decide) dX4_isProcedure_17 (Or.inr ⟨vpB c9 (nI_toInt (by omega)), rfl, rfl, rfl⟩)  -- end 1: c1 : ¬ x1 < 0 ; c9 : (nI np) ≤ x1
    · refine lv_iconst (v := 1) hx hb dX4_isProcedure_12 (by decide) ?_
      refine lv_goto (tgt := 17) hx hb dX4_isProcedure_13 (by decide) ?_
      exact gM_zret C hr narrow_b1 hP hS (by decide) (by decide) dX4_isProcedure_17 (Or.inl ⟨vpA c1 c9 (nI_toInt (by omega)), rfl, rfl, rfl⟩)  -- end 2: c1 : ¬ x1 < 0 ; c9 : ¬ (nI np) ≤ x1
def pq_X4_isEntry (ne : Nat) (x1 : Int32) (I : MI) (L : ML) : Int32 → MI → ML → Prop := fun r I' L' => (vp_in x1 ne ∧ 1 = r ∧ I = I' ∧ L = L') ∨ (¬ vp_in x1 ne ∧ 0 = r ∧ I = I' ∧ L = L')
set_option maxRecDepth 100000 in
set_option maxHeartbeats 4000000 in
theorem ct_X4_isEntry (l : Launch) (D : va_G) (cy : Nat → ClassId) (ad : Nat → Nat) (hJ : gJ ad) (ne : Nat) (x1 : Int32) (I : MI) (L : ML) (hme : I 136 9 = nI ne) (hme40 : ne ≤ 40) : gMi l D cy ad yX4_isEntry cX4_isEntry 2 .boolean (gR 5 0 0) [.ref (ad 136), .int x1] I L (pq_X4_isEntry ne x1 I L) := by
  refine gMi_of hJ (by decide +kernel) kc_X4_isEntry (Nat.le_of_ble_eq_true rfl) (fun p e s m below meth c A ls C hr hP hS hl => ?_)
  have hx := C.hx
  have hb := C.hb
  have hl : lv_has ls 2 [(0, .ref (ad 136)), (1, .int x1)] := hl
  refine lv_iload_n hx hb dX4_isEntry_0 rfl (lv_at hl 1 rfl) ?_
  refine lv_if_lt (tgt := 16) hx hb dX4_isEntry_1 (by decide) (fun c1 => ?_) (fun c1 => ?_)
  · refine lv_iconst (v := 0) hx hb dX4_isEntry_16 (by decide) ?_
    exact gM_zret C hr narrow_b0 hP hS (by decide) (by decide) dX4_isEntry_17 (Or.inr ⟨vpC c1, rfl, rfl, rfl⟩)  -- end 0: c1 : x1 < 0
  · refine lv_iload_n hx hb dX4_isEntry_4 rfl (lv_at hl 1 rfl) ?_
    refine lv_aload_n hx hb dX4_isEntry_5 rfl (lv_at hl 0 rfl) ?_
    refine g_get (v := .int (nI ne)) (T := TX4) C hP 136 9 (by decide) rfl rfl inwX4 (by decide) kf_X4_104 (congrArg (fun z => some (Value.int z)) hme) dX4_isEntry_6 ?_
    refine lv_icmp_ge (tgt := 16) hx hb dX4_isEntry_9 (by decide) (fun c9 => ?_) (fun c9 => ?_)
    · refine lv_iconst (v := 0) hx hb dX4_isEntry_16 (by decide) ?_
      exact gM_zret C hr narrow_b0 hP hS (by decide) (by decide) dX4_isEntry_17 (Or.inr ⟨vpB c9 (nI_toInt (by omega)), rfl, rfl, rfl⟩)  -- end 1: c1 : ¬ x1 < 0 ; c9 : (nI ne) ≤ x1
    · refine lv_iconst (v := 1) hx hb dX4_isEntry_12 (by decide) ?_
      refine lv_goto (tgt := 17) hx hb dX4_isEntry_13 (by decide) ?_
      exact gM_zret C hr narrow_b1 hP hS (by decide) (by decide) dX4_isEntry_17 (Or.inl ⟨vpA c1 c9 (nI_toInt (by omega)), rfl, rfl, rfl⟩)  -- end 2: c1 : ¬ x1 < 0 ; c9 : ¬ (nI ne) ≤ x1
def pq_X4_isOfficer (x0 : Int32) (I : MI) (L : ML) : Int32 → MI → ML → Prop := fun r I' L' => ((x0 = 0 ∨ x0 = 1) ∧ 1 = r ∧ I = I' ∧ L = L') ∨ (¬ (x0 = 0 ∨ x0 = 1) ∧ 0 = r ∧ I = I' ∧ L = L')
set_option maxRecDepth 100000 in
set_option maxHeartbeats 4000000 in
theorem ct_X4_isOfficer (l : Launch) (D : va_G) (cy : Nat → ClassId) (ad : Nat → Nat) (hJ : gJ ad) (x0 : Int32) (I : MI) (L : ML) : gMi l D cy ad yX4_isOfficer cX4_isOfficer 1 .boolean (gR 5 0 0) [.int x0] I L (pq_X4_isOfficer x0 I L) := by
  refine gMi_of hJ (by decide +kernel) kc_X4_isOfficer (Nat.le_of_ble_eq_true rfl) (fun p e s m below meth c A ls C hr hP hS hl => ?_)
  have hx := C.hx
  have hb := C.hb
  have hl : lv_has ls 1 [(0, .int x0)] := hl
  refine lv_iload_n hx hb dX4_isOfficer_0 rfl (lv_at hl 0 rfl) ?_
  refine lv_if_eq (tgt := 9) hx hb dX4_isOfficer_1 (by decide) (fun c1 => ?_) (fun c1 => ?_)
  · refine lv_iconst (v := 1) hx hb dX4_isOfficer_9 (by decide) ?_
    refine lv_goto (tgt := 14) hx hb dX4_isOfficer_10 (by decide) ?_
    exact gM_zret C hr narrow_b1 hP hS (by decide) (by decide) dX4_isOfficer_14 (Or.inl ⟨Or.inl c1, rfl, rfl, rfl⟩)  -- end 0: c1 : x0 = 0
  · refine lv_iload_n hx hb dX4_isOfficer_4 rfl (lv_at hl 0 rfl) ?_
    refine lv_iconst (v := 1) hx hb dX4_isOfficer_5 (by decide) ?_
    refine lv_icmp_ne (tgt := 13) hx hb dX4_isOfficer_6 (by decide) (fun c6 => ?_) (fun c6 => ?_)
    · refine lv_iconst (v := 0) hx hb dX4_isOfficer_13 (by decide) ?_
      exact gM_zret C hr narrow_b0 hP hS (by decide) (by decide) dX4_isOfficer_14 (Or.inr ⟨fun h => h.elim c1 c6, rfl, rfl, rfl⟩)  -- end 1: c1 : ¬ x0 = 0 ; c6 : ¬ x0 = 1
    · refine lv_iconst (v := 1) hx hb dX4_isOfficer_9 (by decide) ?_
      refine lv_goto (tgt := 14) hx hb dX4_isOfficer_10 (by decide) ?_
      exact gM_zret C hr narrow_b1 hP hS (by decide) (by decide) dX4_isOfficer_14 (Or.inl ⟨Or.inr c6, rfl, rfl, rfl⟩)  -- end 2: c1 : ¬ x0 = 0 ; c6 : x0 = 1
def pq_X4_isShare (x0 : Int32) (I : MI) (L : ML) : Int32 → MI → ML → Prop := fun r I' L' => (gSh x0 ∧ 1 = r ∧ I = I' ∧ L = L') ∨ (¬ gSh x0 ∧ 0 = r ∧ I = I' ∧ L = L')
set_option maxRecDepth 100000 in
set_option maxHeartbeats 4000000 in
theorem ct_X4_isShare (l : Launch) (D : va_G) (cy : Nat → ClassId) (ad : Nat → Nat) (hJ : gJ ad) (x0 : Int32) (I : MI) (L : ML) : gMi l D cy ad yX4_isShare cX4_isShare 1 .boolean (gR 5 0 0) [.int x0] I L (pq_X4_isShare x0 I L) := by
  refine gMi_of hJ (by decide +kernel) kc_X4_isShare (Nat.le_of_ble_eq_true rfl) (fun p e s m below meth c A ls C hr hP hS hl => ?_)
  have hx := C.hx
  have hb := C.hb
  have hl : lv_has ls 1 [(0, .int x0)] := hl
  refine lv_iload_n hx hb dX4_isShare_0 rfl (lv_at hl 0 rfl) ?_
  refine lv_bipush (v := (-100)) hx hb dX4_isShare_1 (by decide) ?_
  refine lv_icmp_lt (tgt := 20) hx hb dX4_isShare_3 (by decide) (fun c3 => ?_) (fun c3 => ?_)
  · refine lv_iconst (v := 0) hx hb dX4_isShare_20 (by decide) ?_
    exact gM_zret C hr narrow_b0 hP hS (by decide) (by decide) dX4_isShare_21 (Or.inr ⟨fun h => h.1 c3, rfl, rfl, rfl⟩)  -- end 0: c3 : x0 < (-100)
  · refine lv_iload_n hx hb dX4_isShare_6 rfl (lv_at hl 0 rfl) ?_
    refine lv_bipush (v := 100) hx hb dX4_isShare_7 (by decide) ?_
    refine lv_icmp_gt (tgt := 20) hx hb dX4_isShare_9 (by decide) (fun c9 => ?_) (fun c9 => ?_)
    · refine lv_iconst (v := 0) hx hb dX4_isShare_20 (by decide) ?_
      exact gM_zret C hr narrow_b0 hP hS (by decide) (by decide) dX4_isShare_21 (Or.inr ⟨fun h => h.2.1 c9, rfl, rfl, rfl⟩)  -- end 1: c3 : ¬ x0 < (-100) ; c9 : 100 < x0
    · refine lv_iload_n hx hb dX4_isShare_12 rfl (lv_at hl 0 rfl) ?_
      refine lv_if_eq (tgt := 20) hx hb dX4_isShare_13 (by decide) (fun c13 => ?_) (fun c13 => ?_)
      · refine lv_iconst (v := 0) hx hb dX4_isShare_20 (by decide) ?_
        exact gM_zret C hr narrow_b0 hP hS (by decide) (by decide) dX4_isShare_21 (Or.inr ⟨fun h => h.2.2 c13, rfl, rfl, rfl⟩)  -- end 2: c3 : ¬ x0 < (-100) ; c9 : ¬ 100 < x0 ; c13 : x0 = 0
      · refine lv_iconst (v := 1) hx hb dX4_isShare_16 (by decide) ?_
        refine lv_goto (tgt := 21) hx hb dX4_isShare_17 (by decide) ?_
        exact gM_zret C hr narrow_b1 hP hS (by decide) (by decide) dX4_isShare_21 (Or.inl ⟨⟨c3, c9, c13⟩, rfl, rfl, rfl⟩)  -- end 3: c3 : ¬ x0 < (-100) ; c9 : ¬ 100 < x0 ; c13 : ¬ x0 = 0
def pq_X4_thrown (I : MI) (L : ML) : Int32 → MI → ML → Prop := fun r I' L' => (I 136 0 = r ∧ I = I' ∧ L = L')
set_option maxRecDepth 100000 in
set_option maxHeartbeats 4000000 in
theorem ct_X4_thrown (l : Launch) (D : va_G) (cy : Nat → ClassId) (ad : Nat → Nat) (hJ : gJ ad) (I : MI) (L : ML) : gMi l D cy ad yX4_thrown cX4_thrown 1 .int (gR 5 0 0) [.ref (ad 136)] I L (pq_X4_thrown I L) := by
  refine gMi_of hJ (by decide +kernel) kc_X4_thrown (Nat.le_of_ble_eq_true rfl) (fun p e s m below meth c A ls C hr hP hS hl => ?_)
  have hx := C.hx
  have hb := C.hb
  have hl : lv_has ls 1 [(0, .ref (ad 136))] := hl
  refine lv_aload_n hx hb dX4_thrown_0 rfl (lv_at hl 0 rfl) ?_
  refine g_get (v := .int (I 136 0)) (T := TX4) C hP 136 0 (by decide) rfl rfl inwX4 (by decide) kf_X4_65 rfl dX4_thrown_1 ?_
  exact gM_iret C hr hP hS (by decide) (by decide) dX4_thrown_4 (⟨rfl, rfl, rfl⟩)
def pq_X4_isRequest (x1 : Int32) (I : MI) (L : ML) : Int32 → MI → ML → Prop := fun r I' L' => ((vp_in x1 6 ∧ ¬ I 150 x1.toNatClampNeg < 0) ∧ 1 = r ∧ I = I' ∧ L = L') ∨ (¬ (vp_in x1 6 ∧ ¬ I 150 x1.toNatClampNeg < 0) ∧ 0 = r ∧ I = I' ∧ L = L')
set_option maxRecDepth 100000 in
set_option maxHeartbeats 4000000 in
theorem ct_X4_isRequest (l : Launch) (D : va_G) (cy : Nat → ClassId) (ad : Nat → Nat) (hJ : gJ ad) (x1 : Int32) (I : MI) (L : ML) : gMi l D cy ad yX4_isRequest cX4_isRequest 2 .boolean (gR 5 0 0) [.ref (ad 136), .int x1] I L (pq_X4_isRequest x1 I L) := by
  refine gMi_of hJ (by decide +kernel) kc_X4_isRequest (Nat.le_of_ble_eq_true rfl) (fun p e s m below meth c A ls C hr hP hS hl => ?_)
  have hx := C.hx
  have hb := C.hb
  have hl : lv_has ls 2 [(0, .ref (ad 136)), (1, .int x1)] := hl
  refine lv_iload_n hx hb dX4_isRequest_0 rfl (lv_at hl 1 rfl) ?_
  refine lv_if_lt (tgt := 23) hx hb dX4_isRequest_1 (by decide) (fun c1 => ?_) (fun c1 => ?_)
  · refine lv_iconst (v := 0) hx hb dX4_isRequest_23 (by decide) ?_
    exact gM_zret C hr narrow_b0 hP hS (by decide) (by decide) dX4_isRequest_24 (Or.inr ⟨fun h => vpC c1 h.1, rfl, rfl, rfl⟩)  -- end 0: c1 : x1 < 0
  · refine lv_iload_n hx hb dX4_isRequest_4 rfl (lv_at hl 1 rfl) ?_
    refine lv_bipush (v := 6) hx hb dX4_isRequest_5 (by decide) ?_
    refine lv_icmp_ge (tgt := 23) hx hb dX4_isRequest_7 (by decide) (fun c7 => ?_) (fun c7 => ?_)
    · refine lv_iconst (v := 0) hx hb dX4_isRequest_23 (by decide) ?_
      exact gM_zret C hr narrow_b0 hP hS (by decide) (by decide) dX4_isRequest_24 (Or.inr ⟨fun h => vpB c7 rfl h.1, rfl, rfl, rfl⟩)  -- end 1: c1 : ¬ x1 < 0 ; c7 : 6 ≤ x1
    · have v7 : vp_in x1 6 := vpA c1 c7 rfl
      obtain ⟨e7, l7⟩ := vp_ix v7
      refine lv_aload_n hx hb dX4_isRequest_10 rfl (lv_at hl 0 rfl) ?_
      refine g_get (v := .ref (ad 150)) (T := TX4) C hP 136 16 (by decide) rfl rfl inwX4 (by decide) kf_X4_51 rfl dX4_isRequest_11 ?_
      refine lv_iload_n hx hb dX4_isRequest_14 rfl (lv_at hl 1 rfl) ?_
      refine g_iald (v := I 150 x1.toNatClampNeg) C hP 150 6 (by decide) (fun _ _ => rfl) x1.toNatClampNeg e7 rfl (by omega) (by decide) dX4_isRequest_15 ?_
      refine lv_if_lt (tgt := 23) hx hb dX4_isRequest_16 (by decide) (fun c16 => ?_) (fun c16 => ?_)
      · refine lv_iconst (v := 0) hx hb dX4_isRequest_23 (by decide) ?_
        exact gM_zret C hr narrow_b0 hP hS (by decide) (by decide) dX4_isRequest_24 (Or.inr ⟨fun h => h.2 c16, rfl, rfl, rfl⟩)  -- end 2: c1 : ¬ x1 < 0 ; c7 : ¬ 6 ≤ x1 ; c16 : (I 150 x1.toNatClampNeg) < 0
      · refine lv_iconst (v := 1) hx hb dX4_isRequest_19 (by decide) ?_
        refine lv_goto (tgt := 24) hx hb dX4_isRequest_20 (by decide) ?_
        exact gM_zret C hr narrow_b1 hP hS (by decide) (by decide) dX4_isRequest_24 (Or.inl ⟨⟨v7, c16⟩, rfl, rfl, rfl⟩)  -- end 3: c1 : ¬ x1 < 0 ; c7 : ¬ 6 ≤ x1 ; c16 : ¬ (I 150 x1.toNatClampNeg) < 0
def pq_X4_hasLine (pp : Nat) (nn : Nat) (x1 : Int32) (x2 : Int32) (I : MI) (L : ML) : Int32 → MI → ML → Prop := fun r I' L' => ((∃ k, k < nn ∧ I 141 (4 * pp + k) = x2) ∧ 1 = r ∧ I = I' ∧ L = L') ∨ (¬ (∃ k, k < nn ∧ I 141 (4 * pp + k) = x2) ∧ 0 = r ∧ I = I' ∧ L = L')
set_option maxRecDepth 100000 in
set_option maxHeartbeats 4000000 in
theorem ct_X4_hasLine (l : Launch) (D : va_G) (cy : Nat → ClassId) (ad : Nat → Nat) (hJ : gJ ad) (pp : Nat) (nn : Nat) (x1 : Int32) (x2 : Int32) (I : MI) (L : ML) (hx1 : x1 = nI pp) (hp : pp < 10) (hn : I 139 pp = nI nn) (hn4 : nn ≤ 4) : gMi l D cy ad yX4_hasLine cX4_hasLine 5 .boolean (gR 5 0 0) [.ref (ad 136), .int x1, .int x2] I L (pq_X4_hasLine pp nn x1 x2 I L) := by
  refine gMi_of hJ (by decide +kernel) kc_X4_hasLine (Nat.le_of_ble_eq_true rfl) (fun p e s m below meth c A ls C hr hP hS hl => ?_)
  have hx := C.hx
  have hb := C.hb
  have hl : lv_has ls 5 [(0, .ref (ad 136)), (1, .int x1), (2, .int x2)] := hl
  refine lv_iconst (v := 0) hx hb dX4_hasLine_0 (by decide) ?_
  refine lv_istore_n (lv' := [(3, .int 0), (0, .ref (ad 136)), (1, .int x1), (2, .int x2)]) hx hb dX4_hasLine_1 rfl hl (by decide) rfl (fun ls hl => ?_)
  refine lv_iconst (v := 0) hx hb dX4_hasLine_2 (by decide) ?_
  refine lv_istore (lv' := [(4, .int 0), (3, .int 0), (0, .ref (ad 136)), (1, .int x1), (2, .int x2)]) hx hb dX4_hasLine_3 hl (by decide) rfl (fun ls hl => ?_)
  have loop5 : ∀ (N : Nat) (i : Nat) (z : Int32) (hi : i ≤ nn) (hz : (z = 1 ∧ ∃ k, k < i ∧ I 141 (4 * pp + k) = x2) ∨ (z = 0 ∧ ¬ ∃ k, k < i ∧ I 141 (4 * pp + k) = x2)) (hfu : nn < i + N) (H : Heap) (locs : List Loc) (ls : Array Slot), gP D cy ad I L H → va_S A s.heap H locs → lv_has ls 5 [(0, .ref (ad 136)), (1, .int x1), (2, .int x2), (3, .int z), (4, .int (nI i))] → W p l e (gR 5 0 0) s m ([.ref (ad 136), .int x1, .int x2] : List Value).toArray below meth c H locs 0 0 (MQ below (gQi D cy ad A (pq_X4_hasLine pp nn x1 x2 I L)) ([.ref (ad 136), .int x1, .int x2] : List Value).toArray s 0 0 A) (F0 m 5 ls []) := by
    intro N
    induction N with
    | zero =>
      intro i z hi hz hfu
      exact absurd hfu (by omega)
    | succ N ih5 =>
      intro i z hi hz hfu H locs ls hP hS hl
      refine lv_iload hx hb dX4_hasLine_5 (lv_at hl 4 rfl) ?_
      refine lv_aload_n hx hb dX4_hasLine_7 rfl (lv_at hl 0 rfl) ?_
      refine g_get (v := .ref (ad 139)) (T := TX4) C hP 136 4 (by decide) rfl rfl inwX4 (by decide) kf_X4_16 rfl dX4_hasLine_8 ?_
      refine lv_iload_n hx hb dX4_hasLine_11 rfl (lv_at hl 1 rfl) ?_
      refine g_iald (v := nI nn) C hP 139 10 (by decide) (fun _ _ => rfl) pp hx1 hn (by omega) (by decide) dX4_hasLine_12 ?_
      refine lv_icmp_ge (tgt := 47) hx hb dX4_hasLine_13 (by decide) (fun c13 => ?_) (fun c13 => ?_)
      · have n13 : nn ≤ i := (nI_leeE rfl rfl (by omega) (by omega)).mp c13
        refine lv_iload_n hx hb dX4_hasLine_47 rfl (lv_at hl 3 rfl) ?_
        exact gM_zret C hr (hl_b hz) hP hS (by decide) (by decide) dX4_hasLine_48 (hl_e (f := fun k => I 141 (4 * pp + k)) (show nn = i by omega) hz)  -- end 0: n13 : nn ≤ i
      · have n13 : ¬ nn ≤ i := (not_congr (nI_leeE rfl rfl (by omega) (by omega))).mp c13
        refine lv_iload_n hx hb dX4_hasLine_16 rfl (lv_at hl 3 rfl) ?_
        refine lv_if_ne (tgt := 35) hx hb dX4_hasLine_17 (by decide) (fun c17 => ?_) (fun c17 => ?_)
        · refine lv_iconst (v := 1) hx hb dX4_hasLine_35 (by decide) ?_
          refine lv_goto (tgt := 40) hx hb dX4_hasLine_36 (by decide) ?_
          refine lv_istore_n (lv' := [(3, .int 1), (0, .ref (ad 136)), (1, .int x1), (2, .int x2), (4, .int (nI i))]) hx hb dX4_hasLine_40 rfl hl (by decide) rfl (fun ls hl => ?_)
          refine lv_iinc (v := nI (i + 1)) (lv' := [(4, .int (nI (i + 1))), (3, .int 1), (0, .ref (ad 136)), (1, .int x1), (2, .int x2)]) hx hb dX4_hasLine_41 hl (k := 4) rfl (nI_1 _) (by decide) rfl (fun ls hl => ?_)
          refine lv_goto (tgt := 5) hx hb dX4_hasLine_44 (by decide) ?_
          exact ih5 (i + 1) 1 (by omega) (hl_y (f := fun k => I 141 (4 * pp + k)) c17 hz) (by omega) _ _ _ hP hS (lv_sub hl [2, 3, 4, 1, 0] rfl)
        · refine lv_aload_n hx hb dX4_hasLine_20 rfl (lv_at hl 0 rfl) ?_
          refine g_get (v := .ref (ad 141)) (T := TX4) C hP 136 6 (by decide) rfl rfl inwX4 (by decide) kf_X4_23 rfl dX4_hasLine_21 ?_
          refine lv_iconst (v := 4) hx hb dX4_hasLine_24 (by decide) ?_
          refine lv_iload_n hx hb dX4_hasLine_25 rfl (lv_at hl 1 rfl) ?_
          refine lv_imul hx hb dX4_hasLine_26 ?_
          refine lv_iload hx hb dX4_hasLine_27 (lv_at hl 4 rfl) ?_
          refine lv_iadd hx hb dX4_hasLine_29 ?_
          refine g_iald (v := I 141 ((4 * pp) + i)) C hP 141 40 (by decide) (fun _ _ => rfl) ((4 * pp) + i) (nI_addE (nI_mulE (show (4 : Int32) = nI 4 from rfl) hx1) rfl) rfl (by omega) (by decide) dX4_hasLine_30 ?_
          refine lv_iload_n hx hb dX4_hasLine_31 rfl (lv_at hl 2 rfl) ?_
          refine lv_icmp_ne (tgt := 39) hx hb dX4_hasLine_32 (by decide) (fun c32 => ?_) (fun c32 => ?_)
          · refine lv_iconst (v := 0) hx hb dX4_hasLine_39 (by decide) ?_
            refine lv_istore_n (lv' := [(3, .int 0), (0, .ref (ad 136)), (1, .int x1), (2, .int x2), (4, .int (nI i))]) hx hb dX4_hasLine_40 rfl hl (by decide) rfl (fun ls hl => ?_)
            refine lv_iinc (v := nI (i + 1)) (lv' := [(4, .int (nI (i + 1))), (3, .int 0), (0, .ref (ad 136)), (1, .int x1), (2, .int x2)]) hx hb dX4_hasLine_41 hl (k := 4) rfl (nI_1 _) (by decide) rfl (fun ls hl => ?_)
            refine lv_goto (tgt := 5) hx hb dX4_hasLine_44 (by decide) ?_
            exact ih5 (i + 1) 0 (by omega) (hl_n (f := fun k => I 141 (4 * pp + k)) c17 c32 hz) (by omega) _ _ _ hP hS (lv_sub hl [2, 3, 4, 1, 0] rfl)
          · refine lv_iconst (v := 1) hx hb dX4_hasLine_35 (by decide) ?_
            refine lv_goto (tgt := 40) hx hb dX4_hasLine_36 (by decide) ?_
            refine lv_istore_n (lv' := [(3, .int 1), (0, .ref (ad 136)), (1, .int x1), (2, .int x2), (4, .int (nI i))]) hx hb dX4_hasLine_40 rfl hl (by decide) rfl (fun ls hl => ?_)
            refine lv_iinc (v := nI (i + 1)) (lv' := [(4, .int (nI (i + 1))), (3, .int 1), (0, .ref (ad 136)), (1, .int x1), (2, .int x2)]) hx hb dX4_hasLine_41 hl (k := 4) rfl (nI_1 _) (by decide) rfl (fun ls hl => ?_)
            refine lv_goto (tgt := 5) hx hb dX4_hasLine_44 (by decide) ?_
            exact ih5 (i + 1) 1 (by omega) (Or.inl ⟨rfl, i, by omega, c32⟩) (by omega) _ _ _ hP hS (lv_sub hl [2, 3, 4, 1, 0] rfl)
  exact loop5 (nn + 1) 0 0 (Nat.zero_le _) (Or.inr ⟨rfl, fun ⟨k, h, _⟩ => absurd h (Nat.not_lt_zero _)⟩) (by omega) _ _ _ hP hS (lv_sub hl [2, 3, 4, 1, 0] rfl)
def pq_X4_allShares (pp : Nat) (nn : Nat) (x1 : Int32) (I : MI) (L : ML) : Int32 → MI → ML → Prop := fun r I' L' => gsm (gmS I pp) nn = r ∧ I = I' ∧ L = L'
set_option maxRecDepth 100000 in
set_option maxHeartbeats 4000000 in
theorem ct_X4_allShares (l : Launch) (D : va_G) (cy : Nat → ClassId) (ad : Nat → Nat) (hJ : gJ ad) (pp : Nat) (nn : Nat) (x1 : Int32) (I : MI) (L : ML) (hx1 : x1 = nI pp) (hp : pp < 10) (hn : I 139 pp = nI nn) (hn4 : nn ≤ 4) : gMi l D cy ad yX4_allShares cX4_allShares 4 .int (gR 5 0 0) [.ref (ad 136), .int x1] I L (pq_X4_allShares pp nn x1 I L) := by
  refine gMi_of hJ (by decide +kernel) kc_X4_allShares (Nat.le_of_ble_eq_true rfl) (fun p e s m below meth c A ls C hr hP hS hl => ?_)
  have hx := C.hx
  have hb := C.hb
  have hl : lv_has ls 4 [(0, .ref (ad 136)), (1, .int x1)] := hl
  refine lv_iconst (v := 0) hx hb dX4_allShares_0 (by decide) ?_
  refine lv_istore_n (lv' := [(2, .int 0), (0, .ref (ad 136)), (1, .int x1)]) hx hb dX4_allShares_1 rfl hl (by decide) rfl (fun ls hl => ?_)
  refine lv_iconst (v := 0) hx hb dX4_allShares_2 (by decide) ?_
  refine lv_istore_n (lv' := [(3, .int 0), (2, .int 0), (0, .ref (ad 136)), (1, .int x1)]) hx hb dX4_allShares_3 rfl hl (by decide) rfl (fun ls hl => ?_)
  have loop4 : ∀ (N : Nat) (i : Nat) (hi : i ≤ nn) (hfu : nn < i + N) (H : Heap) (locs : List Loc) (ls : Array Slot), gP D cy ad I L H → va_S A s.heap H locs → lv_has ls 4 [(0, .ref (ad 136)), (1, .int x1), (2, .int (gsm (gmS I pp) i)), (3, .int (nI i))] → W p l e (gR 5 0 0) s m ([.ref (ad 136), .int x1] : List Value).toArray below meth c H locs 0 0 (MQ below (gQi D cy ad A (pq_X4_allShares pp nn x1 I L)) ([.ref (ad 136), .int x1] : List Value).toArray s 0 0 A) (F0 m 4 ls []) := by
    intro N
    induction N with
    | zero =>
      intro i hi hfu
      exact absurd hfu (by omega)
    | succ N ih4 =>
      intro i hi hfu H locs ls hP hS hl
      refine lv_iload_n hx hb dX4_allShares_4 rfl (lv_at hl 3 rfl) ?_
      refine lv_aload_n hx hb dX4_allShares_5 rfl (lv_at hl 0 rfl) ?_
      refine g_get (v := .ref (ad 139)) (T := TX4) C hP 136 4 (by decide) rfl rfl inwX4 (by decide) kf_X4_16 rfl dX4_allShares_6 ?_
      refine lv_iload_n hx hb dX4_allShares_9 rfl (lv_at hl 1 rfl) ?_
      refine g_iald (v := nI nn) C hP 139 10 (by decide) (fun _ _ => rfl) pp hx1 hn (by omega) (by decide) dX4_allShares_10 ?_
      refine lv_icmp_ge (tgt := 33) hx hb dX4_allShares_11 (by decide) (fun c11 => ?_) (fun c11 => ?_)
      · have n11 : nn ≤ i := (nI_leeE rfl rfl (by omega) (by omega)).mp c11
        refine lv_iload_n hx hb dX4_allShares_33 rfl (lv_at hl 2 rfl) ?_
        exact gM_iret C hr hP hS (by decide) (by decide) dX4_allShares_34 (⟨by rw [show nn = i by omega], rfl, rfl⟩)  -- end 0: n11 : nn ≤ i
      · have n11 : ¬ nn ≤ i := (not_congr (nI_leeE rfl rfl (by omega) (by omega))).mp c11
        refine lv_iload_n hx hb dX4_allShares_14 rfl (lv_at hl 2 rfl) ?_
        refine lv_aload_n hx hb dX4_allShares_15 rfl (lv_at hl 0 rfl) ?_
        refine g_get (v := .ref (ad 142)) (T := TX4) C hP 136 7 (by decide) rfl rfl inwX4 (by decide) kf_X4_26 rfl dX4_allShares_16 ?_
        refine lv_iconst (v := 4) hx hb dX4_allShares_19 (by decide) ?_
        refine lv_iload_n hx hb dX4_allShares_20 rfl (lv_at hl 1 rfl) ?_
        refine lv_imul hx hb dX4_allShares_21 ?_
        refine lv_iload_n hx hb dX4_allShares_22 rfl (lv_at hl 3 rfl) ?_
        refine lv_iadd hx hb dX4_allShares_23 ?_
        refine g_iald (v := I 142 ((4 * pp) + i)) C hP 142 40 (by decide) (fun _ _ => rfl) ((4 * pp) + i) (nI_addE (nI_mulE (show (4 : Int32) = nI 4 from rfl) hx1) rfl) rfl (by omega) (by decide) dX4_allShares_24 ?_
        refine lv_iadd hx hb dX4_allShares_25 ?_
        refine lv_istore_n (lv' := [(2, .int ((gsm (gmS I pp) i) + (I 142 ((4 * pp) + i)))), (0, .ref (ad 136)), (1, .int x1), (3, .int (nI i))]) hx hb dX4_allShares_26 rfl hl (by decide) rfl (fun ls hl => ?_)
        refine lv_iinc (v := nI (i + 1)) (lv' := [(3, .int (nI (i + 1))), (2, .int ((gsm (gmS I pp) i) + (I 142 ((4 * pp) + i)))), (0, .ref (ad 136)), (1, .int x1)]) hx hb dX4_allShares_27 hl (k := 3) rfl (nI_1 _) (by decide) rfl (fun ls hl => ?_)
        refine lv_goto (tgt := 4) hx hb dX4_allShares_30 (by decide) ?_
        exact ih4 (i + 1) (by omega) (by omega) _ _ _ hP hS (lv_sub hl [2, 3, 1, 0] rfl)
  exact loop4 (nn + 1) 0 (Nat.zero_le _) (by omega) _ _ _ hP hS (lv_sub hl [2, 3, 1, 0] rfl)
def pq_X4_may (uu : Nat) (pp : Nat) (x1 : Int32) (x2 : Int32) (I : MI) (L : ML) : Int32 → MI → ML → Prop := fun r I' L' => (gMM I x1 uu pp ∧ 1 = r ∧ I = I' ∧ L = L') ∨ (¬ gMM I x1 uu pp ∧ 0 = r ∧ I = I' ∧ L = L')
set_option maxRecDepth 100000 in
set_option maxHeartbeats 4000000 in
theorem ct_X4_may (l : Launch) (D : va_G) (cy : Nat → ClassId) (ad : Nat → Nat) (hJ : gJ ad) (uu : Nat) (pp : Nat) (x1 : Int32) (x2 : Int32) (I : MI) (L : ML) (hx1 : x1 = nI uu) (hu : uu < 8) (hx2 : x2 = nI pp) (hp : pp < 10) : gMi l D cy ad yX4_may cX4_may 3 .boolean (gR 5 0 0) [.ref (ad 136), .int x1, .int x2] I L (pq_X4_may uu pp x1 x2 I L) := by
  refine gMi_of hJ (by decide +kernel) kc_X4_may (Nat.le_of_ble_eq_true rfl) (fun p e s m below meth c A ls C hr hP hS hl => ?_)
  have hx := C.hx
  have hb := C.hb
  have hl : lv_has ls 3 [(0, .ref (ad 136)), (1, .int x1), (2, .int x2)] := hl
  refine lv_aload_n hx hb dX4_may_0 rfl (lv_at hl 0 rfl) ?_
  refine g_get (v := .ref (ad 140)) (T := TX4) C hP 136 5 (by decide) rfl rfl inwX4 (by decide) kf_X4_20 rfl dX4_may_1 ?_
  refine lv_iload_n hx hb dX4_may_4 rfl (lv_at hl 2 rfl) ?_
  refine g_iald (v := I 140 pp) C hP 140 10 (by decide) (fun _ _ => rfl) pp hx2 rfl (by omega) (by decide) dX4_may_5 ?_
  refine lv_if_lt (tgt := 37) hx hb dX4_may_6 (by decide) (fun c6 => ?_) (fun c6 => ?_)
  · refine lv_iconst (v := 0) hx hb dX4_may_37 (by decide) ?_
    exact gM_zret C hr narrow_b0 hP hS (by decide) (by decide) dX4_may_38 (Or.inr ⟨fun h => h.1 c6, rfl, rfl, rfl⟩)  -- end 0: c6 : (I 140 pp) < 0
  · refine lv_aload_n hx hb dX4_may_9 rfl (lv_at hl 0 rfl) ?_
    refine g_get (v := .ref (ad 140)) (T := TX4) C hP 136 5 (by decide) rfl rfl inwX4 (by decide) kf_X4_20 rfl dX4_may_10 ?_
    refine lv_iload_n hx hb dX4_may_13 rfl (lv_at hl 2 rfl) ?_
    refine g_iald (v := I 140 pp) C hP 140 10 (by decide) (fun _ _ => rfl) pp hx2 rfl (by omega) (by decide) dX4_may_14 ?_
    refine lv_iload_n hx hb dX4_may_15 rfl (lv_at hl 1 rfl) ?_
    refine lv_icmp_eq (tgt := 37) hx hb dX4_may_16 (by decide) (fun c16 => ?_) (fun c16 => ?_)
    · refine lv_iconst (v := 0) hx hb dX4_may_37 (by decide) ?_
      exact gM_zret C hr narrow_b0 hP hS (by decide) (by decide) dX4_may_38 (Or.inr ⟨fun h => h.2.1 c16, rfl, rfl, rfl⟩)  -- end 1: c6 : ¬ (I 140 pp) < 0 ; c16 : (I 140 pp) = x1
    · refine lv_aload_n hx hb dX4_may_19 rfl (lv_at hl 0 rfl) ?_
      refine g_get (v := .ref (ad 143)) (T := TX4) C hP 136 8 (by decide) rfl rfl inwX4 (by decide) kf_X4_29 rfl dX4_may_20 ?_
      refine lv_bipush (v := 8) hx hb dX4_may_23 (by decide) ?_
      refine lv_iload_n hx hb dX4_may_25 rfl (lv_at hl 2 rfl) ?_
      refine lv_imul hx hb dX4_may_26 ?_
      refine lv_iload_n hx hb dX4_may_27 rfl (lv_at hl 1 rfl) ?_
      refine lv_iadd hx hb dX4_may_28 ?_
      refine g_zald (v := I 143 ((8 * pp) + uu)) C hP 143 80 (by decide) (fun _ _ => rfl) ((8 * pp) + uu) (nI_addE (nI_mulE (show (8 : Int32) = nI 8 from rfl) hx2) hx1) rfl (by omega) (by decide) dX4_may_29 ?_
      refine lv_if_eq (tgt := 37) hx hb dX4_may_30 (by decide) (fun c30 => ?_) (fun c30 => ?_)
      · refine lv_iconst (v := 0) hx hb dX4_may_37 (by decide) ?_
        exact gM_zret C hr narrow_b0 hP hS (by decide) (by decide) dX4_may_38 (Or.inr ⟨fun h => h.2.2 c30, rfl, rfl, rfl⟩)  -- end 2: c6 : ¬ (I 140 pp) < 0 ; c16 : ¬ (I 140 pp) = x1 ; c30 : (I 143 ((8 * pp) + uu)) = 0
      · refine lv_iconst (v := 1) hx hb dX4_may_33 (by decide) ?_
        refine lv_goto (tgt := 38) hx hb dX4_may_34 (by decide) ?_
        exact gM_zret C hr narrow_b1 hP hS (by decide) (by decide) dX4_may_38 (Or.inl ⟨⟨c6, c16, c30⟩, rfl, rfl, rfl⟩)  -- end 3: c6 : ¬ (I 140 pp) < 0 ; c16 : ¬ (I 140 pp) = x1 ; c30 : ¬ (I 143 ((8 * pp) + uu)) = 0
def pq_X4_mayApprove (uu : Nat) (qq : Nat) (x1 : Int32) (x2 : Int32) (I : MI) (L : ML) : Int32 → MI → ML → Prop := fun r I' L' => ((gMM I x1 uu (I 151 qq).toNatClampNeg ∧ ¬ I 150 qq = x1) ∧ 1 = r ∧ I = I' ∧ L = L') ∨ (¬ (gMM I x1 uu (I 151 qq).toNatClampNeg ∧ ¬ I 150 qq = x1) ∧ 0 = r ∧ I = I' ∧ L = L')
set_option maxRecDepth 100000 in
set_option maxHeartbeats 4000000 in
theorem ct_X4_mayApprove (l : Launch) (D : va_G) (cy : Nat → ClassId) (ad : Nat → Nat) (hJ : gJ ad) (uu : Nat) (qq : Nat) (x1 : Int32) (x2 : Int32) (I : MI) (L : ML) (hx1 : x1 = nI uu) (hu : uu < 8) (hx2 : x2 = nI qq) (hq : qq < 6) (hw : vp_in (I 151 qq) 10) : gMi l D cy ad yX4_mayApprove cX4_mayApprove 3 .boolean (gR 4 0 0) [.ref (ad 136), .int x1, .int x2] I L (pq_X4_mayApprove uu qq x1 x2 I L) := by
  refine gMi_of hJ (by decide +kernel) kc_X4_mayApprove (Nat.le_of_ble_eq_true rfl) (fun p e s m below meth c A ls C hr hP hS hl => ?_)
  have hx := C.hx
  have hb := C.hb
  have hl : lv_has ls 3 [(0, .ref (ad 136)), (1, .int x1), (2, .int x2)] := hl
  refine lv_aload_n hx hb dX4_mayApprove_0 rfl (lv_at hl 0 rfl) ?_
  refine lv_iload_n hx hb dX4_mayApprove_1 rfl (lv_at hl 1 rfl) ?_
  refine lv_aload_n hx hb dX4_mayApprove_2 rfl (lv_at hl 0 rfl) ?_
  refine g_get (v := .ref (ad 151)) (T := TX4) C hP 136 17 (by decide) rfl rfl inwX4 (by decide) kf_X4_54 rfl dX4_mayApprove_3 ?_
  refine lv_iload_n hx hb dX4_mayApprove_6 rfl (lv_at hl 2 rfl) ?_
  refine g_iald (v := I 151 qq) C hP 151 6 (by decide) (fun _ _ => rfl) qq hx2 rfl (by omega) (by decide) dX4_mayApprove_7 ?_
  obtain ⟨e8, l8⟩ := vp_ix hw
  refine gM_callVi (As := [.int x1, .int (I 151 qq)]) (rest := []) C hP hS hl.1 (ct_X4_may l D cy ad hJ uu ((I 151 qq).toNatClampNeg) x1 (I 151 qq) I L hx1 (by omega) e8 (by omega)) fa_X4_may kl_X4_93 ki_X4_may kse_X4_may (by decide) (T := TX4) rfl rfl rfl (by decide) (Nat.le_of_ble_eq_true rfl) (by decide) dX4_mayApprove_8 rfl (fun r8 I8 L8 H locs hq hP hS => ?_)
  rcases hq with ⟨h8_0, rfl, rfl, rfl⟩ | ⟨h8_0, rfl, rfl, rfl⟩
  · refine lv_if_eq (tgt := 28) hx hb dX4_mayApprove_11 (by decide) (fun c => absurd c (by decide)) (fun _ => ?_)
    refine lv_aload_n hx hb dX4_mayApprove_14 rfl (lv_at hl 0 rfl) ?_
    refine g_get (v := .ref (ad 150)) (T := TX4) C hP 136 16 (by decide) rfl rfl inwX4 (by decide) kf_X4_51 rfl dX4_mayApprove_15 ?_
    refine lv_iload_n hx hb dX4_mayApprove_18 rfl (lv_at hl 2 rfl) ?_
    refine g_iald (v := I 150 qq) C hP 150 6 (by decide) (fun _ _ => rfl) qq hx2 rfl (by omega) (by decide) dX4_mayApprove_19 ?_
    refine lv_iload_n hx hb dX4_mayApprove_20 rfl (lv_at hl 1 rfl) ?_
    refine lv_icmp_eq (tgt := 28) hx hb dX4_mayApprove_21 (by decide) (fun c21 => ?_) (fun c21 => ?_)
    · refine lv_iconst (v := 0) hx hb dX4_mayApprove_28 (by decide) ?_
      exact gM_zret C hr narrow_b0 hP hS (by decide) (by decide) dX4_mayApprove_29 (Or.inr ⟨fun h => h.2 c21, rfl, rfl, rfl⟩)  -- end 0: h8_0 : gMM I x1 uu ((I 151 qq).toNatClampNeg) ; c21 : (I 150 qq) = x1
    · refine lv_iconst (v := 1) hx hb dX4_mayApprove_24 (by decide) ?_
      refine lv_goto (tgt := 29) hx hb dX4_mayApprove_25 (by decide) ?_
      exact gM_zret C hr narrow_b1 hP hS (by decide) (by decide) dX4_mayApprove_29 (Or.inl ⟨⟨h8_0, c21⟩, rfl, rfl, rfl⟩)  -- end 1: h8_0 : gMM I x1 uu ((I 151 qq).toNatClampNeg) ; c21 : ¬ (I 150 qq) = x1
  · refine lv_if_eq (tgt := 28) hx hb dX4_mayApprove_11 (by decide) (fun _ => ?_) (fun c => absurd c (by decide))
    refine lv_iconst (v := 0) hx hb dX4_mayApprove_28 (by decide) ?_
    exact gM_zret C hr narrow_b0 hP hS (by decide) (by decide) dX4_mayApprove_29 (Or.inr ⟨fun h => h8_0 h.1, rfl, rfl, rfl⟩)  -- end 2: h8_0 : ¬ gMM I x1 uu ((I 151 qq).toNatClampNeg)
def pq_X4_findPosts (pp : Nat) (nn : Nat) (x1 : Int32) (x2 : Int64) (I : MI) (L : ML) : MI → ML → Prop := fun I' L' => I = I' ∧ va_up L 153 (gpw x2 (gmS I pp) nn (L 153)) = L'
set_option maxRecDepth 100000 in
set_option maxHeartbeats 4000000 in
theorem ct_X4_findPosts (l : Launch) (D : va_G) (cy : Nat → ClassId) (ad : Nat → Nat) (hJ : gJ ad) (pp : Nat) (nn : Nat) (x1 : Int32) (x2 : Int64) (I : MI) (L : ML) (hx1 : x1 = nI pp) (hp : pp < 10) (hn : I 139 pp = nI nn) (hn4 : nn ≤ 4) : gMv l D cy ad yX4_findPosts cX4_findPosts 7 (gR 5 0 0) [.ref (ad 136), .int x1, .long x2] I L (pq_X4_findPosts pp nn x1 x2 I L) := by
  refine gMv_of hJ (by decide +kernel) kc_X4_findPosts (Nat.le_of_ble_eq_true rfl) (fun p e s m below meth c A ls C hr hP hS hl => ?_)
  have hx := C.hx
  have hb := C.hb
  have hl : lv_has ls 7 [(0, .ref (ad 136)), (1, .int x1), (2, .long x2)] := hl
  refine lv_lconst (v := 0) hx hb dX4_findPosts_0 (by decide) ?_
  refine lv_lstore (lv' := [(4, .long 0), (0, .ref (ad 136)), (1, .int x1), (2, .long x2)]) hx hb dX4_findPosts_1 hl (by decide) rfl (fun ls hl => ?_)
  refine lv_iconst (v := 0) hx hb dX4_findPosts_3 (by decide) ?_
  refine lv_istore (lv' := [(6, .int 0), (4, .long 0), (0, .ref (ad 136)), (1, .int x1), (2, .long x2)]) hx hb dX4_findPosts_4 hl (by decide) rfl (fun ls hl => ?_)
  have loop6 : ∀ (N : Nat) (i : Nat) (L1 : ML) (z : Int64) (hi : i ≤ nn) (hz : i < nn → z = gsq x2 (gmS I pp) i) (hL0 : ∀ c, c ≠ 153 → L1 c = L c) (hL1 : ∀ k, k < i → L1 153 k = gpo x2 (gmS I pp) nn k) (hL2 : ∀ k, i ≤ k → L1 153 k = L 153 k) (hfu : nn < i + N) (H : Heap) (locs : List Loc) (ls : Array Slot), gP D cy ad I L1 H → va_S A s.heap H locs → lv_has ls 7 [(0, .ref (ad 136)), (1, .int x1), (2, .long x2), (4, .long z), (6, .int (nI i))] → W p l e (gR 5 0 0) s m ([.ref (ad 136), .int x1, .long x2] : List Value).toArray below meth c H locs 0 0 (MQ below (gQv D cy ad A (pq_X4_findPosts pp nn x1 x2 I L)) ([.ref (ad 136), .int x1, .long x2] : List Value).toArray s 0 0 A) (F0 m 6 ls []) := by
    intro N
    induction N with
    | zero =>
      intro i L1 z hi hz hL0 hL1 hL2 hfu
      exact absurd hfu (by omega)
    | succ N ih6 =>
      intro i L1 z hi hz hL0 hL1 hL2 hfu H locs ls hP hS hl
      refine lv_iload hx hb dX4_findPosts_6 (lv_at hl 4 rfl) ?_
      refine lv_aload_n hx hb dX4_findPosts_8 rfl (lv_at hl 0 rfl) ?_
      refine g_get (v := .ref (ad 139)) (T := TX4) C hP 136 4 (by decide) rfl rfl inwX4 (by decide) kf_X4_16 rfl dX4_findPosts_9 ?_
      refine lv_iload_n hx hb dX4_findPosts_12 rfl (lv_at hl 1 rfl) ?_
      refine g_iald (v := nI nn) C hP 139 10 (by decide) (fun _ _ => rfl) pp hx1 hn (by omega) (by decide) dX4_findPosts_13 ?_
      refine lv_icmp_ge (tgt := 79) hx hb dX4_findPosts_14 (by decide) (fun c14 => ?_) (fun c14 => ?_)
      · have n14 : nn ≤ i := (nI_leeE rfl rfl (by omega) (by omega)).mp c14
        exact gM_vret C hr hP hS (by decide) (by decide) dX4_findPosts_79 (⟨rfl, fps_end (by omega) hL0 hL1 hL2⟩)  -- end 0: n14 : nn ≤ i
      · have n14 : ¬ nn ≤ i := (not_congr (nI_leeE rfl rfl (by omega) (by omega))).mp c14
        refine lv_aload_n hx hb dX4_findPosts_17 rfl (lv_at hl 0 rfl) ?_
        refine g_get (v := .ref (ad 153)) (T := TX4) C hP 136 19 (by decide) rfl rfl inwX4 (by decide) kf_X4_60 rfl dX4_findPosts_18 ?_
        refine lv_iload hx hb dX4_findPosts_21 (lv_at hl 4 rfl) ?_
        refine lv_iload hx hb dX4_findPosts_23 (lv_at hl 4 rfl) ?_
        refine lv_aload_n hx hb dX4_findPosts_25 rfl (lv_at hl 0 rfl) ?_
        refine g_get (v := .ref (ad 139)) (T := TX4) C hP 136 4 (by decide) rfl rfl inwX4 (by decide) kf_X4_16 rfl dX4_findPosts_26 ?_
        refine lv_iload_n hx hb dX4_findPosts_29 rfl (lv_at hl 1 rfl) ?_
        refine g_iald (v := nI nn) C hP 139 10 (by decide) (fun _ _ => rfl) pp hx1 hn (by omega) (by decide) dX4_findPosts_30 ?_
        refine lv_iconst (v := 1) hx hb dX4_findPosts_31 (by decide) ?_
        refine lv_isub hx hb dX4_findPosts_32 ?_
        refine lv_icmp_ne (tgt := 42) hx hb dX4_findPosts_33 (by decide) (fun c33 => ?_) (fun c33 => ?_)
        · have n33 : ¬ i = (nn - 1) := (not_congr (nI_eqqE rfl (nI_subE rfl (show (1 : Int32) = nI 1 from rfl) (by omega)) (by omega) (by omega))).mp c33
          refine lv_lload_n hx hb dX4_findPosts_42 rfl (lv_at hl 2 rfl) ?_
          refine lv_aload_n hx hb dX4_findPosts_43 rfl (lv_at hl 0 rfl) ?_
          refine g_get (v := .ref (ad 142)) (T := TX4) C hP 136 7 (by decide) rfl rfl inwX4 (by decide) kf_X4_26 rfl dX4_findPosts_44 ?_
          refine lv_iconst (v := 4) hx hb dX4_findPosts_47 (by decide) ?_
          refine lv_iload_n hx hb dX4_findPosts_48 rfl (lv_at hl 1 rfl) ?_
          refine lv_imul hx hb dX4_findPosts_49 ?_
          refine lv_iload hx hb dX4_findPosts_50 (lv_at hl 4 rfl) ?_
          refine lv_iadd hx hb dX4_findPosts_52 ?_
          refine g_iald (v := I 142 ((4 * pp) + i)) C hP 142 40 (by decide) (fun _ _ => rfl) ((4 * pp) + i) (nI_addE (nI_mulE (show (4 : Int32) = nI 4 from rfl) hx1) rfl) rfl (by omega) (by decide) dX4_findPosts_53 ?_
          refine lv_i2l (v := (I 142 ((4 * pp) + i)).toInt64) hx hb dX4_findPosts_54 rfl ?_
          refine lv_lmul hx hb dX4_findPosts_55 ?_
          refine lv_ldc2 (v := 100) hx hb C.hown (C.hts _ kcn_X4_98) dX4_findPosts_56 ?_
          refine lv_ldiv hx hb dX4_findPosts_59 (by decide) ?_
          refine g_last C hP hS 153 4 (by decide) (fun _ _ => rfl) i rfl (by omega) (by decide) dX4_findPosts_60 (fun H locs hP hS => ?_)
          refine lv_lload hx hb dX4_findPosts_61 (lv_at hl 3 rfl) ?_
          refine lv_aload_n hx hb dX4_findPosts_63 rfl (lv_at hl 0 rfl) ?_
          refine g_get (v := .ref (ad 153)) (T := TX4) C hP 136 19 (by decide) rfl rfl inwX4 (by decide) kf_X4_60 rfl dX4_findPosts_64 ?_
          refine lv_iload hx hb dX4_findPosts_67 (lv_at hl 4 rfl) ?_
          refine g_lald (v := (x2 * ((I 142 ((4 * pp) + i)).toInt64)) / 100) C hP 153 4 (by decide) (fun _ _ => rfl) i rfl sL_eq (by omega) (by decide) dX4_findPosts_69 ?_
          refine lv_ladd hx hb dX4_findPosts_70 ?_
          refine lv_lstore (lv' := [(4, .long (z + ((x2 * ((I 142 ((4 * pp) + i)).toInt64)) / 100))), (0, .ref (ad 136)), (1, .int x1), (2, .long x2), (6, .int (nI i))]) hx hb dX4_findPosts_71 hl (by decide) rfl (fun ls hl => ?_)
          refine lv_iinc (v := nI (i + 1)) (lv' := [(6, .int (nI (i + 1))), (4, .long (z + ((x2 * ((I 142 ((4 * pp) + i)).toInt64)) / 100))), (0, .ref (ad 136)), (1, .int x1), (2, .long x2)]) hx hb dX4_findPosts_73 hl (k := 4) rfl (nI_1 _) (by decide) rfl (fun ls hl => ?_)
          refine lv_goto (tgt := 6) hx hb dX4_findPosts_76 (by decide) ?_
          exact ih6 (i + 1) _ _ (by omega) (fun h => by rw [hz (by omega)]; rfl) (fun c hc => (sL_row hc).trans (hL0 c hc)) (fps_step (g := gpo x2 (gmS I pp) nn) (if_neg (by omega)).symm hL1) (fun k hk => by rw [sL_at, if_neg (fun z => by omega)]; exact hL2 k (by omega)) (by omega) _ _ _ hP hS (lv_sub hl [2, 3, 4, 1, 0] rfl)
        · have n33 : i = (nn - 1) := (nI_eqqE rfl (nI_subE rfl (show (1 : Int32) = nI 1 from rfl) (by omega)) (by omega) (by omega)).mp c33
          refine lv_lload hx hb dX4_findPosts_36 (lv_at hl 3 rfl) ?_
          refine lv_lneg hx hb dX4_findPosts_38 ?_
          refine lv_goto (tgt := 60) hx hb dX4_findPosts_39 (by decide) ?_
          refine g_last C hP hS 153 4 (by decide) (fun _ _ => rfl) i rfl (by omega) (by decide) dX4_findPosts_60 (fun H locs hP hS => ?_)
          refine lv_lload hx hb dX4_findPosts_61 (lv_at hl 3 rfl) ?_
          refine lv_aload_n hx hb dX4_findPosts_63 rfl (lv_at hl 0 rfl) ?_
          refine g_get (v := .ref (ad 153)) (T := TX4) C hP 136 19 (by decide) rfl rfl inwX4 (by decide) kf_X4_60 rfl dX4_findPosts_64 ?_
          refine lv_iload hx hb dX4_findPosts_67 (lv_at hl 4 rfl) ?_
          refine g_lald (v := -z) C hP 153 4 (by decide) (fun _ _ => rfl) i rfl sL_eq (by omega) (by decide) dX4_findPosts_69 ?_
          refine lv_ladd hx hb dX4_findPosts_70 ?_
          refine lv_lstore (lv' := [(4, .long (z + (-z))), (0, .ref (ad 136)), (1, .int x1), (2, .long x2), (6, .int (nI i))]) hx hb dX4_findPosts_71 hl (by decide) rfl (fun ls hl => ?_)
          refine lv_iinc (v := nI (i + 1)) (lv' := [(6, .int (nI (i + 1))), (4, .long (z + (-z))), (0, .ref (ad 136)), (1, .int x1), (2, .long x2)]) hx hb dX4_findPosts_73 hl (k := 4) rfl (nI_1 _) (by decide) rfl (fun ls hl => ?_)
          refine lv_goto (tgt := 6) hx hb dX4_findPosts_76 (by decide) ?_
          exact ih6 (i + 1) _ _ (by omega) (fun h => absurd h (by omega)) (fun c hc => (sL_row hc).trans (hL0 c hc)) (fps_step (g := gpo x2 (gmS I pp) nn) (by unfold gpo; rw [if_pos (by omega), hz (by omega)]) hL1) (fun k hk => by rw [sL_at, if_neg (fun z => by omega)]; exact hL2 k (by omega)) (by omega) _ _ _ hP hS (lv_sub hl [2, 3, 4, 1, 0] rfl)
  exact loop6 (nn + 1) 0 L 0 (Nat.zero_le _) (fun _ => rfl) (fun _ _ => rfl) (fun _ h => absurd h (Nat.not_lt_zero _)) (fun _ _ => rfl) (by omega) _ _ _ hP hS (lv_sub hl [2, 3, 4, 1, 0] rfl)
