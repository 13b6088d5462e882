def pq_X3_isUser (x0 : Int32) (I : MI) (L : ML) : Int32 → MI → ML → Prop := fun r I' L' => (vp_in x0 8 ∧ 1 = r ∧ I = I' ∧ L = L') ∨ (¬ vp_in x0 8 ∧ 0 = r ∧ I = I' ∧ L = L')
set_option maxRecDepth 100000 in
set_option maxHeartbeats 4000000 in
theorem ct_X3_isUser (l : Launch) (D : va_G) (cy : Nat → ClassId) (ad : Nat → Nat) (hJ : gJ ad) (x0 : Int32) (I : MI) (L : ML) : gMi l D cy ad yX3_isUser cX3_isUser 1 .boolean (gR 5 0 0) [.int x0] I L (pq_X3_isUser x0 I L) := by
  refine gMi_of hJ (by decide +kernel) kc_X3_isUser (Nat.le_of_ble_eq_true rfl) (fun p e s m below meth c A ls C hr hP hS hl => ?_)
  have hx := C.hx
  have hb := C.hb
  have hl : lv_has ls 1 [(0, .int x0)] := hl
  refine lv_iload_n hx hb dX3_isUser_0 rfl (lv_at hl 0 rfl) ?_
  refine lv_if_lt (tgt := 14) hx hb dX3_isUser_1 (by decide) (fun c1 => ?_) (fun c1 => ?_)
  · refine lv_iconst (v := 0) hx hb dX3_isUser_14 (by decide) ?_
    exact gM_zret C hr narrow_b0 hP hS (by decide) (by decide) dX3_isUser_15 (Or.inr ⟨vpC c1, rfl, rfl, rfl⟩)  -- end 0: c1 : x0 < 0
  · refine lv_iload_n hx hb dX3_isUser_4 rfl (lv_at hl 0 rfl) ?_
    refine lv_bipush (v := 8) hx hb dX3_isUser_5 (by decide) ?_
    refine lv_icmp_ge (tgt := 14) hx hb dX3_isUser_7 (by decide) (fun c7 => ?_) (fun c7 => ?_)
    · refine lv_iconst (v := 0) hx hb dX3_isUser_14 (by decide) ?_
      exact gM_zret C hr narrow_b0 hP hS (by decide) (by decide) dX3_isUser_15 (Or.inr ⟨vpB c7 rfl, rfl, rfl, rfl⟩)  -- end 1: c1 : ¬ x0 < 0 ; c7 : 8 ≤ x0
    · refine lv_iconst (v := 1) hx hb dX3_isUser_10 (by decide) ?_
      refine lv_goto (tgt := 15) hx hb dX3_isUser_11 (by decide) ?_
      exact gM_zret C hr narrow_b1 hP hS (by decide) (by decide) dX3_isUser_15 (Or.inl ⟨vpA c1 c7 rfl, rfl, rfl, rfl⟩)  -- end 2: c1 : ¬ x0 < 0 ; c7 : ¬ 8 ≤ x0
def pq_X3_isProcedure (np : Nat) (x1 : Int32) (I : MI) (L : ML) : Int32 → MI → ML → Prop := fun r I' L' => (vp_in x1 np ∧ 1 = r ∧ I = I' ∧ L = L') ∨ (¬ vp_in x1 np ∧ 0 = r ∧ I = I' ∧ L = L')
set_option maxRecDepth 100000 in
set_option maxHeartbeats 4000000 in
theorem ct_X3_isProcedure (l : Launch) (D : va_G) (cy : Nat → ClassId) (ad : Nat → Nat) (hJ : gJ ad) (np : Nat) (x1 : Int32) (I : MI) (L : ML) (hnp : I 0 3 = nI np) (hnp10 : np ≤ 10) : gMi l D cy ad yX3_isProcedure cX3_isProcedure 2 .boolean (gR 5 0 0) [.ref (ad 0), .int x1] I L (pq_X3_isProcedure np x1 I L) := by
  refine gMi_of hJ (by decide +kernel) kc_X3_isProcedure (Nat.le_of_ble_eq_true rfl) (fun p e s m below meth c A ls C hr hP hS hl => ?_)
  have hx := C.hx
  have hb := C.hb
  have hl : lv_has ls 2 [(0, .ref (ad 0)), (1, .int x1)] := hl
  refine lv_iload_n hx hb dX3_isProcedure_0 rfl (lv_at hl 1 rfl) ?_
  refine lv_if_lt (tgt := 16) hx hb dX3_isProcedure_1 (by decide) (fun c1 => ?_) (fun c1 => ?_)
  · refine lv_iconst (v := 0) hx hb dX3_isProcedure_16 (by decide) ?_
    exact gM_zret C hr narrow_b0 hP hS (by decide) (by decide) dX3_isProcedure_17 (Or.inr ⟨vpC c1, rfl, rfl, rfl⟩)  -- end 0: c1 : x1 < 0
  · refine lv_iload_n hx hb dX3_isProcedure_4 rfl (lv_at hl 1 rfl) ?_
    refine lv_aload_n hx hb dX3_isProcedure_5 rfl (lv_at hl 0 rfl) ?_
    refine g_get (v := .int (nI np)) (T := TX3) C hP 0 3 (by decide) rfl rfl inwX3 (by decide) kf_X3_22 (congrArg (fun z => some (Value.int z)) hnp) dX3_isProcedure_6 ?_
    refine lv_icmp_ge (tgt := 16) hx hb dX3_isProcedure_9 (by decide) (fun c9 => ?_) (fun c9 => ?_)
    · refine lv_iconst (v := 0) hx hb dX3_isProcedure_16 (by decide) ?_
      exact gM_zret C hr narrow_b0 hP hS (by decide) (by decide) dX3_isProcedure_17 (Or.inr ⟨vpB c9 (nI_toInt (by omega)), rfl, rfl, rfl⟩)  -- end 1: c1 : ¬ x1 < 0 ; c9 : (nI np) ≤ x1
    · refine lv_iconst (v := 1) hx hb dX3_isProcedure_12 (by decide) ?_
      refine lv_goto (tgt := 17) hx hb dX3_isProcedure_13 (by decide) ?_
      exact gM_zret C hr narrow_b1 hP hS (by decide) (by decide) dX3_isProcedure_17 (Or.inl ⟨vpA c1 c9 (nI_toInt (by omega)), rfl, rfl, rfl⟩)  -- end 2: c1 : ¬ x1 < 0 ; c9 : ¬ (nI np) ≤ x1
def pq_X3_isBeyondLimit (x0 : Int64) (I : MI) (L : ML) : Int32 → MI → ML → Prop := fun r I' L' => (x0 < (-1000000000000) ∧ (1 : Int32) = r ∧ I = I' ∧ L = L') ∨ (¬ x0 < (-1000000000000) ∧ x0 ≤ 1000000000000 ∧ (0 : Int32) = r ∧ I = I' ∧ L = L') ∨ (¬ x0 < (-1000000000000) ∧ ¬ x0 ≤ 1000000000000 ∧ (1 : Int32) = r ∧ I = I' ∧ L = L')
set_option maxRecDepth 100000 in
set_option maxHeartbeats 4000000 in
theorem ct_X3_isBeyondLimit (l : Launch) (D : va_G) (cy : Nat → ClassId) (ad : Nat → Nat) (hJ : gJ ad) (x0 : Int64) (I : MI) (L : ML) : gMi l D cy ad yX3_isBeyondLimit cX3_isBeyondLimit 2 .boolean (gR 5 0 0) [.long x0] I L (pq_X3_isBeyondLimit x0 I L) := by
  refine gMi_of hJ (by decide +kernel) kc_X3_isBeyondLimit (Nat.le_of_ble_eq_true rfl) (fun p e s m below meth c A ls C hr hP hS hl => ?_)
  have hx := C.hx
  have hb := C.hb
  have hl : lv_has ls 2 [(0, .long x0)] := hl
  refine lv_lload_n hx hb dX3_isBeyondLimit_0 rfl (lv_at hl 0 rfl) ?_
  refine lv_ldc2 (v := (-1000000000000)) hx hb C.hown (C.hts _ kcn_X3_49) dX3_isBeyondLimit_1 ?_
  refine W.lcmp hx hb dX3_isBeyondLimit_4 ?_
  refine lv_if_lt (tgt := 16) hx hb dX3_isBeyondLimit_5 (by decide) (fun c5 => ?_) (fun c5 => ?_)
  · have n5 : x0 < (-1000000000000) := (lg_cmp_lt _ _).mp c5
    refine lv_iconst (v := 1) hx hb dX3_isBeyondLimit_16 (by decide) ?_
    refine lv_goto (tgt := 21) hx hb dX3_isBeyondLimit_17 (by decide) ?_
    exact gM_zret C hr narrow_b1 hP hS (by decide) (by decide) dX3_isBeyondLimit_21 (Or.inl (⟨n5, rfl, rfl, rfl⟩))
  · have n5 : ¬ x0 < (-1000000000000) := (not_congr (lg_cmp_lt _ _)).mp c5
    refine lv_lload_n hx hb dX3_isBeyondLimit_8 rfl (lv_at hl 0 rfl) ?_
    refine lv_ldc2 (v := 1000000000000) hx hb C.hown (C.hts _ kcn_X3_249) dX3_isBeyondLimit_9 ?_
    refine W.lcmp hx hb dX3_isBeyondLimit_12 ?_
    refine lv_if_le (tgt := 20) hx hb dX3_isBeyondLimit_13 (by decide) (fun c13 => ?_) (fun c13 => ?_)
    · have n13 : x0 ≤ 1000000000000 := (lg_cmp_le _ _).mp c13
      refine lv_iconst (v := 0) hx hb dX3_isBeyondLimit_20 (by decide) ?_
      exact gM_zret C hr narrow_b0 hP hS (by decide) (by decide) dX3_isBeyondLimit_21 (Or.inr (Or.inl (⟨n5, n13, rfl, rfl, rfl⟩)))
    · have n13 : ¬ x0 ≤ 1000000000000 := (not_congr (lg_cmp_le _ _)).mp c13
      refine lv_iconst (v := 1) hx hb dX3_isBeyondLimit_16 (by decide) ?_
      refine lv_goto (tgt := 21) hx hb dX3_isBeyondLimit_17 (by decide) ?_
      exact gM_zret C hr narrow_b1 hP hS (by decide) (by decide) dX3_isBeyondLimit_21 (Or.inr (Or.inr (⟨n5, n13, rfl, rfl, rfl⟩)))
def pq_X3_requireAccount (x0 : Int32) (I : MI) (L : ML) : MI → ML → Prop := fun I' L' => vp_in x0 8 ∧ I = I' ∧ L = L'
def px_X3_requireAccount (x0 : Int32) (I : MI) (L : ML) : String → MI → ML → Prop := fun E I' L' => (¬ vp_in x0 8 ∧ xIO = E ∧ I = I' ∧ L = L')
set_option maxRecDepth 100000 in
set_option maxHeartbeats 4000000 in
theorem ct_X3_requireAccount (l : Launch) (D : va_G) (cy : Nat → ClassId) (ad : Nat → Nat) (hJ : gJ ad) (hlf : l.stackTraces = false) (x0 : Int32) (I : MI) (L : ML) : gTv l D cy ad yX3_requireAccount cX3_requireAccount 1 (gR 4 1 6) [.int x0] I L (pq_X3_requireAccount x0 I L) (px_X3_requireAccount x0 I L) := by
  refine gTv_of hJ (by decide +kernel) kc_X3_requireAccount (Nat.le_of_ble_eq_true rfl) (fun p e s m below meth c A ls C hr ht hP hS hl => ?_)
  have hx := C.hx
  have hb := C.hb
  have hl : lv_has ls 1 [(0, .int x0)] := hl
  refine lv_iload_n hx hb dX3_requireAccount_0 rfl (lv_at hl 0 rfl) ?_
  refine lv_if_lt (tgt := 10) hx hb dX3_requireAccount_1 (by decide) (fun c1 => ?_) (fun c1 => ?_)
  · exact g_throwSW (cls := xIO) C hlf hP hS hl.1 (by decide) kcl_X3_194 kini_IndexOutOfBoundsException ks_265 gat_198 gan_198 gao_198 dX3_requireAccount_10 dX3_requireAccount_13 dX3_requireAccount_14 dX3_requireAccount_17 dX3_requireAccount_20 ht (by decide) (by decide) (by decide) (by decide) (by decide) ⟨vpC c1, rfl, rfl, rfl⟩
  · refine lv_iload_n hx hb dX3_requireAccount_4 rfl (lv_at hl 0 rfl) ?_
    refine lv_bipush (v := 8) hx hb dX3_requireAccount_5 (by decide) ?_
    refine lv_icmp_lt (tgt := 21) hx hb dX3_requireAccount_7 (by decide) (fun c7 => ?_) (fun c7 => ?_)
    · exact gT_vret C hr hP hS (by decide) (by decide) dX3_requireAccount_21 (⟨vpA2 c1 c7 rfl, rfl, rfl⟩)  -- end 0: c1 : ¬ x0 < 0 ; c7 : x0 < 8
    · exact g_throwSW (cls := xIO) C hlf hP hS hl.1 (by decide) kcl_X3_194 kini_IndexOutOfBoundsException ks_265 gat_198 gan_198 gao_198 dX3_requireAccount_10 dX3_requireAccount_13 dX3_requireAccount_14 dX3_requireAccount_17 dX3_requireAccount_20 ht (by decide) (by decide) (by decide) (by decide) (by decide) ⟨vpB2 c7 rfl, rfl, rfl, rfl⟩
def pq_X3_requireUser (x0 : Int32) (I : MI) (L : ML) : MI → ML → Prop := fun I' L' => vp_in x0 8 ∧ I = I' ∧ L = L'
def px_X3_requireUser (x0 : Int32) (I : MI) (L : ML) : String → MI → ML → Prop := fun E I' L' => (¬ vp_in x0 8 ∧ xIO = E ∧ I = I' ∧ L = L')
set_option maxRecDepth 100000 in
set_option maxHeartbeats 4000000 in
theorem ct_X3_requireUser (l : Launch) (D : va_G) (cy : Nat → ClassId) (ad : Nat → Nat) (hJ : gJ ad) (hlf : l.stackTraces = false) (x0 : Int32) (I : MI) (L : ML) : gTv l D cy ad yX3_requireUser cX3_requireUser 1 (gR 4 1 6) [.int x0] I L (pq_X3_requireUser x0 I L) (px_X3_requireUser x0 I L) := by
  refine gTv_of hJ (by decide +kernel) kc_X3_requireUser (Nat.le_of_ble_eq_true rfl) (fun p e s m below meth c A ls C hr ht hP hS hl => ?_)
  have hx := C.hx
  have hb := C.hb
  have hl : lv_has ls 1 [(0, .int x0)] := hl
  refine lv_iload_n hx hb dX3_requireUser_0 rfl (lv_at hl 0 rfl) ?_
  refine gM_callSi (As := [.int x0]) (rest := []) C hP hS hl.1 (ct_X3_isUser l D cy ad hJ x0 I L) fa_X3_isUser kl_X3_206 kst_X3_isUser rfl (by decide) (Nat.le_of_ble_eq_true rfl) (by decide) dX3_requireUser_1 rfl (fun r1 I1 L1 H locs hq hP hS => ?_)
  rcases hq with ⟨h1_0, rfl, rfl, rfl⟩ | ⟨h1_0, rfl, rfl, rfl⟩
  · obtain ⟨e1_0, l1_0⟩ := vp_ix h1_0
    refine lv_if_ne (tgt := 18) hx hb dX3_requireUser_4 (by decide) (fun c => ?_) (fun c => absurd c (by decide))
    exact gT_vret C hr hP hS (by decide) (by decide) dX3_requireUser_18 (⟨h1_0, rfl, rfl⟩)  -- end 0: h1_0 : vp_in x0 8
  · refine lv_if_ne (tgt := 18) hx hb dX3_requireUser_4 (by decide) (fun c => absurd c (by decide)) (fun c => ?_)
    exact g_throwSW (cls := xIO) C hlf hP hS hl.1 (by decide) kcl_X3_194 kini_IndexOutOfBoundsException ks_267 gat_198 gan_198 gao_198 dX3_requireUser_7 dX3_requireUser_10 dX3_requireUser_11 dX3_requireUser_14 dX3_requireUser_17 ht (by decide) (by decide) (by decide) (by decide) (by decide) ⟨h1_0, rfl, rfl, rfl⟩
def pq_X3_requireOfficer (x0 : Int32) (I : MI) (L : ML) : MI → ML → Prop := fun I' L' => (x0 < 2 ∧ I = I' ∧ L = L')
def px_X3_requireOfficer (x0 : Int32) (I : MI) (L : ML) : String → MI → ML → Prop := fun E I' L' => (¬ x0 < 2 ∧ xUO = E ∧ I = I' ∧ L = L')
set_option maxRecDepth 100000 in
set_option maxHeartbeats 4000000 in
theorem ct_X3_requireOfficer (l : Launch) (D : va_G) (cy : Nat → ClassId) (ad : Nat → Nat) (hJ : gJ ad) (hlf : l.stackTraces = false) (x0 : Int32) (I : MI) (L : ML) : gTv l D cy ad yX3_requireOfficer cX3_requireOfficer 1 (gR 4 1 6) [.int x0] I L (pq_X3_requireOfficer x0 I L) (px_X3_requireOfficer x0 I L) := by
  refine gTv_of hJ (by decide +kernel) kc_X3_requireOfficer (Nat.le_of_ble_eq_true rfl) (fun p e s m below meth c A ls C hr ht hP hS hl => ?_)
  have hx := C.hx
  have hb := C.hb
  have hl : lv_has ls 1 [(0, .int x0)] := hl
  refine lv_iload_n hx hb dX3_requireOfficer_0 rfl (lv_at hl 0 rfl) ?_
  refine lv_iconst (v := 2) hx hb dX3_requireOfficer_1 (by decide) ?_
  refine lv_icmp_lt (tgt := 16) hx hb dX3_requireOfficer_2 (by decide) (fun c2 => ?_) (fun c2 => ?_)
  · exact gT_vret C hr hP hS (by decide) (by decide) dX3_requireOfficer_16 (⟨c2, rfl, rfl⟩)
  · exact g_throwSW (cls := xUO) C hlf hP hS hl.1 (by decide) kcl_X3_108 kini_UnsupportedOperationException ks_269 gat_112 gan_112 gao_112 dX3_requireOfficer_5 dX3_requireOfficer_8 dX3_requireOfficer_9 dX3_requireOfficer_12 dX3_requireOfficer_15 ht (by decide) (by decide) (by decide) (by decide) (by decide) (⟨c2, rfl, rfl, rfl⟩)
def pq_X3_requireShare (x0 : Int32) (I : MI) (L : ML) : MI → ML → Prop := fun I' L' => gSh x0 ∧ I = I' ∧ L = L'
def px_X3_requireShare (x0 : Int32) (I : MI) (L : ML) : String → MI → ML → Prop := fun E I' L' => (¬ gSh x0 ∧ xIA = E ∧ I = I' ∧ L = L')
set_option maxRecDepth 100000 in
set_option maxHeartbeats 4000000 in
theorem ct_X3_requireShare (l : Launch) (D : va_G) (cy : Nat → ClassId) (ad : Nat → Nat) (hJ : gJ ad) (hlf : l.stackTraces = false) (x0 : Int32) (I : MI) (L : ML) : gTv l D cy ad yX3_requireShare cX3_requireShare 1 (gR 4 1 6) [.int x0] I L (pq_X3_requireShare x0 I L) (px_X3_requireShare x0 I L) := by
  refine gTv_of hJ (by decide +kernel) kc_X3_requireShare (Nat.le_of_ble_eq_true rfl) (fun p e s m below meth c A ls C hr ht hP hS hl => ?_)
  have hx := C.hx
  have hb := C.hb
  have hl : lv_has ls 1 [(0, .int x0)] := hl
  refine lv_iload_n hx hb dX3_requireShare_0 rfl (lv_at hl 0 rfl) ?_
  refine lv_bipush (v := (-100)) hx hb dX3_requireShare_1 (by decide) ?_
  refine lv_icmp_lt (tgt := 16) hx hb dX3_requireShare_3 (by decide) (fun c3 => ?_) (fun c3 => ?_)
  · exact g_throwSW (cls := xIA) C hlf hP hS hl.1 (by decide) kcl_X3_79 kini_IllegalArgumentException ks_271 gat_83 gan_83 gao_83 dX3_requireShare_16 dX3_requireShare_19 dX3_requireShare_20 dX3_requireShare_23 dX3_requireShare_26 ht (by decide) (by decide) (by decide) (by decide) (by decide) ⟨fun h => h.1 c3, rfl, rfl, rfl⟩
  · refine lv_iload_n hx hb dX3_requireShare_6 rfl (lv_at hl 0 rfl) ?_
    refine lv_bipush (v := 100) hx hb dX3_requireShare_7 (by decide) ?_
    refine lv_icmp_gt (tgt := 16) hx hb dX3_requireShare_9 (by decide) (fun c9 => ?_) (fun c9 => ?_)
    · exact g_throwSW (cls := xIA) C hlf hP hS hl.1 (by decide) kcl_X3_79 kini_IllegalArgumentException ks_271 gat_83 gan_83 gao_83 dX3_requireShare_16 dX3_requireShare_19 dX3_requireShare_20 dX3_requireShare_23 dX3_requireShare_26 ht (by decide) (by decide) (by decide) (by decide) (by decide) ⟨fun h => h.2.1 c9, rfl, rfl, rfl⟩
    · refine lv_iload_n hx hb dX3_requireShare_12 rfl (lv_at hl 0 rfl) ?_
      refine lv_if_ne (tgt := 27) hx hb dX3_requireShare_13 (by decide) (fun c13 => ?_) (fun c13 => ?_)
      · exact gT_vret C hr hP hS (by decide) (by decide) dX3_requireShare_27 (⟨⟨c3, c9, c13⟩, rfl, rfl⟩)  -- end 0: c3 : ¬ x0 < (-100) ; c9 : ¬ 100 < x0 ; c13 : ¬ x0 = 0
      · exact g_throwSW (cls := xIA) C hlf hP hS hl.1 (by decide) kcl_X3_79 kini_IllegalArgumentException ks_271 gat_83 gan_83 gao_83 dX3_requireShare_16 dX3_requireShare_19 dX3_requireShare_20 dX3_requireShare_23 dX3_requireShare_26 ht (by decide) (by decide) (by decide) (by decide) (by decide) ⟨fun h => h.2.2 c13, rfl, rfl, rfl⟩
def pq_X3_requireProcedure (np : Nat) (x1 : Int32) (I : MI) (L : ML) : MI → ML → Prop := fun I' L' => vp_in x1 np ∧ I = I' ∧ L = L'
def px_X3_requireProcedure (np : Nat) (x1 : Int32) (I : MI) (L : ML) : String → MI → ML → Prop := fun E I' L' => (¬ vp_in x1 np ∧ xIO = E ∧ I = I' ∧ L = L')
set_option maxRecDepth 100000 in
set_option maxHeartbeats 4000000 in
theorem ct_X3_requireProcedure (l : Launch) (D : va_G) (cy : Nat → ClassId) (ad : Nat → Nat) (hJ : gJ ad) (hlf : l.stackTraces = false) (np : Nat) (x1 : Int32) (I : MI) (L : ML) (hnp : I 0 3 = nI np) (hnp10 : np ≤ 10) : gTv l D cy ad yX3_requireProcedure cX3_requireProcedure 2 (gR 4 1 6) [.ref (ad 0), .int x1] I L (pq_X3_requireProcedure np x1 I L) (px_X3_requireProcedure np x1 I L) := by
  refine gTv_of hJ (by decide +kernel) kc_X3_requireProcedure (Nat.le_of_ble_eq_true rfl) (fun p e s m below meth c A ls C hr ht hP hS hl => ?_)
  have hx := C.hx
  have hb := C.hb
  have hl : lv_has ls 2 [(0, .ref (ad 0)), (1, .int x1)] := hl
  refine lv_aload_n hx hb dX3_requireProcedure_0 rfl (lv_at hl 0 rfl) ?_
  refine lv_iload_n hx hb dX3_requireProcedure_1 rfl (lv_at hl 1 rfl) ?_
  refine gM_callVi (As := [.int x1]) (rest := []) C hP hS hl.1 (ct_X3_isProcedure l D cy ad hJ np x1 I L hnp hnp10) fa_X3_isProcedure kl_X3_209 ki_X3_isProcedure kse_X3_isProcedure (by decide) (T := TX3) rfl rfl rfl (by decide) (Nat.le_of_ble_eq_true rfl) (by decide) dX3_requireProcedure_2 rfl (fun r2 I2 L2 H locs hq hP hS => ?_)
  rcases hq with ⟨h2_0, rfl, rfl, rfl⟩ | ⟨h2_0, rfl, rfl, rfl⟩
  · obtain ⟨e2_0, l2_0⟩ := vp_ix h2_0
    refine lv_if_ne (tgt := 19) hx hb dX3_requireProcedure_5 (by decide) (fun c => ?_) (fun c => absurd c (by decide))
    exact gT_vret C hr hP hS (by decide) (by decide) dX3_requireProcedure_19 (⟨h2_0, rfl, rfl⟩)  -- end 0: h2_0 : vp_in x1 np
  · refine lv_if_ne (tgt := 19) hx hb dX3_requireProcedure_5 (by decide) (fun c => absurd c (by decide)) (fun c => ?_)
    exact g_throwSW (cls := xIO) C hlf hP hS hl.1 (by decide) kcl_X3_194 kini_IndexOutOfBoundsException ks_259 gat_198 gan_198 gao_198 dX3_requireProcedure_8 dX3_requireProcedure_11 dX3_requireProcedure_12 dX3_requireProcedure_15 dX3_requireProcedure_18 ht (by decide) (by decide) (by decide) (by decide) (by decide) ⟨h2_0, rfl, rfl, rfl⟩
def pq_X3_requireEntry (ne : Nat) (x1 : Int32) (I : MI) (L : ML) : MI → ML → Prop := fun I' L' => vp_in x1 ne ∧ I = I' ∧ L = L'
def px_X3_requireEntry (ne : Nat) (x1 : Int32) (I : MI) (L : ML) : String → MI → ML → Prop := fun E I' L' => (¬ vp_in x1 ne ∧ xIO = E ∧ I = I' ∧ L = L')
set_option maxRecDepth 100000 in
set_option maxHeartbeats 4000000 in
theorem ct_X3_requireEntry (l : Launch) (D : va_G) (cy : Nat → ClassId) (ad : Nat → Nat) (hJ : gJ ad) (hlf : l.stackTraces = false) (ne : Nat) (x1 : Int32) (I : MI) (L : ML) (hne : I 0 6 = nI ne) (hne40 : ne ≤ 40) : gTv l D cy ad yX3_requireEntry cX3_requireEntry 2 (gR 4 1 6) [.ref (ad 0), .int x1] I L (pq_X3_requireEntry ne x1 I L) (px_X3_requireEntry ne x1 I L) := by
  refine gTv_of hJ (by decide +kernel) kc_X3_requireEntry (Nat.le_of_ble_eq_true rfl) (fun p e s m below meth c A ls C hr ht hP hS hl => ?_)
  have hx := C.hx
  have hb := C.hb
  have hl : lv_has ls 2 [(0, .ref (ad 0)), (1, .int x1)] := hl
  refine lv_iload_n hx hb dX3_requireEntry_0 rfl (lv_at hl 1 rfl) ?_
  refine lv_if_lt (tgt := 12) hx hb dX3_requireEntry_1 (by decide) (fun c1 => ?_) (fun c1 => ?_)
  · exact g_throwSW (cls := xIO) C hlf hP hS hl.1 (by decide) kcl_X3_194 kini_IndexOutOfBoundsException ks_263 gat_198 gan_198 gao_198 dX3_requireEntry_12 dX3_requireEntry_15 dX3_requireEntry_16 dX3_requireEntry_19 dX3_requireEntry_22 ht (by decide) (by decide) (by decide) (by decide) (by decide) ⟨vpC c1, rfl, rfl, rfl⟩
  · refine lv_iload_n hx hb dX3_requireEntry_4 rfl (lv_at hl 1 rfl) ?_
    refine lv_aload_n hx hb dX3_requireEntry_5 rfl (lv_at hl 0 rfl) ?_
    refine g_get (v := .int (nI ne)) (T := TX3) C hP 0 6 (by decide) rfl rfl inwX3 (by decide) kf_X3_38 (congrArg (fun z => some (Value.int z)) hne) dX3_requireEntry_6 ?_
    refine lv_icmp_lt (tgt := 23) hx hb dX3_requireEntry_9 (by decide) (fun c9 => ?_) (fun c9 => ?_)
    · exact gT_vret C hr hP hS (by decide) (by decide) dX3_requireEntry_23 (⟨vpA2 c1 c9 (nI_toInt (by omega)), rfl, rfl⟩)  -- end 0: c1 : ¬ x1 < 0 ; c9 : x1 < (nI ne)
    · exact g_throwSW (cls := xIO) C hlf hP hS hl.1 (by decide) kcl_X3_194 kini_IndexOutOfBoundsException ks_263 gat_198 gan_198 gao_198 dX3_requireEntry_12 dX3_requireEntry_15 dX3_requireEntry_16 dX3_requireEntry_19 dX3_requireEntry_22 ht (by decide) (by decide) (by decide) (by decide) (by decide) ⟨vpB2 c9 (nI_toInt (by omega)), rfl, rfl, rfl⟩
def pq_X2_isInUse (qq : Nat) (I : MI) (L : ML) : Int32 → MI → ML → Prop := fun r I' L' => ((I (8 + qq) 0) = (-1) ∧ (0 : Int32) = r ∧ I = I' ∧ L = L') ∨ (¬ (I (8 + qq) 0) = (-1) ∧ (1 : Int32) = r ∧ I = I' ∧ L = L')
set_option maxRecDepth 100000 in
set_option maxHeartbeats 4000000 in
theorem ct_X2_isInUse (l : Launch) (D : va_G) (cy : Nat → ClassId) (ad : Nat → Nat) (hJ : gJ ad) (qq : Nat) (I : MI) (L : ML) (hq : qq < 6) : gMi l D cy ad yX2_isInUse cX2_isInUse 1 .boolean (gR 5 0 0) [.ref (ad (8 + qq))] I L (pq_X2_isInUse qq I L) := by
  refine gMi_of hJ (by decide +kernel) kc_X2_isInUse (Nat.le_of_ble_eq_true rfl) (fun p e s m below meth c A ls C hr hP hS hl => ?_)
  have hx := C.hx
  have hb := C.hb
  have hl : lv_has ls 1 [(0, .ref (ad (8 + qq)))] := hl
  refine lv_aload_n hx hb dX2_isInUse_0 rfl (lv_at hl 0 rfl) ?_
  refine g_get (v := .int (I (8 + qq) 0)) (T := TX2) C hP (8 + qq) 0 (by omega) (kd_Q hq _ _) rfl inwX2 (by decide) kf_X2_9 rfl dX2_isInUse_1 ?_
  refine lv_iconst (v := (-1)) hx hb dX2_isInUse_4 (by decide) ?_
  refine lv_icmp_eq (tgt := 12) hx hb dX2_isInUse_5 (by decide) (fun c5 => ?_) (fun c5 => ?_)
  · refine lv_iconst (v := 0) hx hb dX2_isInUse_12 (by decide) ?_
    exact gM_zret C hr narrow_b0 hP hS (by decide) (by decide) dX2_isInUse_13 (Or.inl (⟨c5, rfl, rfl, rfl⟩))
  · refine lv_iconst (v := 1) hx hb dX2_isInUse_8 (by decide) ?_
    refine lv_goto (tgt := 13) hx hb dX2_isInUse_9 (by decide) ?_
    exact gM_zret C hr narrow_b1 hP hS (by decide) (by decide) dX2_isInUse_13 (Or.inr (⟨c5, rfl, rfl, rfl⟩))
def pq_X2_clear (qq : Nat) (I : MI) (L : ML) : MI → ML → Prop := fun I' L' => ((sI I (8 + qq) 0 (-1)) = I' ∧ L = L')
set_option maxRecDepth 100000 in
set_option maxHeartbeats 4000000 in
theorem ct_X2_clear (l : Launch) (D : va_G) (cy : Nat → ClassId) (ad : Nat → Nat) (hJ : gJ ad) (qq : Nat) (I : MI) (L : ML) (hq : qq < 6) : gMv l D cy ad yX2_clear cX2_clear 1 (gR 5 0 0) [.ref (ad (8 + qq))] I L (pq_X2_clear qq I L) := by
  refine gMv_of hJ (by decide +kernel) kc_X2_clear (Nat.le_of_ble_eq_true rfl) (fun p e s m below meth c A ls C hr hP hS hl => ?_)
  have hx := C.hx
  have hb := C.hb
  have hl : lv_has ls 1 [(0, .ref (ad (8 + qq)))] := hl
  refine lv_aload_n hx hb dX2_clear_0 rfl (lv_at hl 0 rfl) ?_
  refine lv_iconst (v := (-1)) hx hb dX2_clear_1 (by decide) ?_
  refine g_putI (T := TX2) C hP hS (8 + qq) 0 (by omega) (kd_Q hq _ _) rfl inwX2 tyX2 tyX2_ok nmX2 (by decide) kf_X2_9 rfl rfl (by decide : 0 < 3) ((kd_Q hq _ _).trans (by simp only [sI, va_up_self]; rfl)) dX2_clear_2 (fun H locs hP hS => ?_)
  exact gM_vret C hr hP hS (by decide) (by decide) dX2_clear_5 (⟨rfl, rfl⟩)
def pq_X2_fill (qq : Nat) (x1 : Int32) (x2 : Int32) (x3 : Int64) (I : MI) (L : ML) : MI → ML → Prop := fun I' L' => ((sI (sI I (8 + qq) 0 x1) (8 + qq) 1 x2) = I' ∧ (sL L (8 + qq) 2 x3) = L')
set_option maxRecDepth 100000 in
set_option maxHeartbeats 4000000 in
theorem ct_X2_fill (l : Launch) (D : va_G) (cy : Nat → ClassId) (ad : Nat → Nat) (hJ : gJ ad) (qq : Nat) (x1 : Int32) (x2 : Int32) (x3 : Int64) (I : MI) (L : ML) (hq : qq < 6) : gMv l D cy ad yX2_fill cX2_fill 5 (gR 5 0 0) [.ref (ad (8 + qq)), .int x1, .int x2, .long x3] I L (pq_X2_fill qq x1 x2 x3 I L) := by
  refine gMv_of hJ (by decide +kernel) kc_X2_fill (Nat.le_of_ble_eq_true rfl) (fun p e s m below meth c A ls C hr hP hS hl => ?_)
  have hx := C.hx
  have hb := C.hb
  have hl : lv_has ls 5 [(0, .ref (ad (8 + qq))), (1, .int x1), (2, .int x2), (3, .long x3)] := hl
  refine lv_aload_n hx hb dX2_fill_0 rfl (lv_at hl 0 rfl) ?_
  refine lv_iload_n hx hb dX2_fill_1 rfl (lv_at hl 1 rfl) ?_
  refine g_putI (T := TX2) C hP hS (8 + qq) 0 (by omega) (kd_Q hq _ _) rfl inwX2 tyX2 tyX2_ok nmX2 (by decide) kf_X2_9 rfl rfl (by decide : 0 < 3) ((kd_Q hq _ _).trans (by simp only [sI, va_up_self]; rfl)) dX2_fill_2 (fun H locs hP hS => ?_)
  refine lv_aload_n hx hb dX2_fill_5 rfl (lv_at hl 0 rfl) ?_
  refine lv_iload_n hx hb dX2_fill_6 rfl (lv_at hl 2 rfl) ?_
  refine g_putI (T := TX2) C hP hS (8 + qq) 1 (by omega) (kd_Q hq _ _) rfl inwX2 tyX2 tyX2_ok nmX2 (by decide) kf_X2_15 rfl rfl (by decide : 1 < 3) ((kd_Q hq _ _).trans (by simp only [sI, va_up_self]; rfl)) dX2_fill_7 (fun H locs hP hS => ?_)
  refine lv_aload_n hx hb dX2_fill_10 rfl (lv_at hl 0 rfl) ?_
  refine lv_lload_n hx hb dX2_fill_11 rfl (lv_at hl 3 rfl) ?_
  refine g_putL (T := TX2) C hP hS (8 + qq) 2 (by omega) (kd_Q hq _ _) rfl inwX2 tyX2 tyX2_ok nmX2 (by decide) kf_X2_18 rfl rfl (by decide : 2 < 3) ((kd_Q hq _ _).trans (by simp only [sL, va_up_self]; rfl)) dX2_fill_12 (fun H locs hP hS => ?_)
  exact gM_vret C hr hP hS (by decide) (by decide) dX2_fill_15 (⟨rfl, rfl⟩)
def pq_X0_fill (e0 : Nat) (x1 : Int32) (x2 : Int64) (x4 : Int32) (x5 : Int32) (x6 : Int32) (I : MI) (L : ML) : MI → ML → Prop := fun I' L' => ((sI (sI (sI (sI I (14 + e0) 0 x1) (14 + e0) 2 x4) (14 + e0) 3 x5) (14 + e0) 4 x6) = I' ∧ (sL L (14 + e0) 1 x2) = L')
set_option maxRecDepth 100000 in
set_option maxHeartbeats 4000000 in
theorem ct_X0_fill (l : Launch) (D : va_G) (cy : Nat → ClassId) (ad : Nat → Nat) (hJ : gJ ad) (e0 : Nat) (x1 : Int32) (x2 : Int64) (x4 : Int32) (x5 : Int32) (x6 : Int32) (I : MI) (L : ML) (he : e0 < 40) : gMv l D cy ad yX0_fill cX0_fill 7 (gR 5 0 0) [.ref (ad (14 + e0)), .int x1, .long x2, .int x4, .int x5, .int x6] I L (pq_X0_fill e0 x1 x2 x4 x5 x6 I L) := by
  refine gMv_of hJ (by decide +kernel) kc_X0_fill (Nat.le_of_ble_eq_true rfl) (fun p e s m below meth c A ls C hr hP hS hl => ?_)
  have hx := C.hx
  have hb := C.hb
  have hl : lv_has ls 7 [(0, .ref (ad (14 + e0))), (1, .int x1), (2, .long x2), (4, .int x4), (5, .int x5), (6, .int x6)] := hl
  refine lv_aload_n hx hb dX0_fill_0 rfl (lv_at hl 0 rfl) ?_
  refine lv_iload_n hx hb dX0_fill_1 rfl (lv_at hl 1 rfl) ?_
  refine g_putI (T := TX0) C hP hS (14 + e0) 0 (by omega) (kd_E he _ _) rfl inwX0 tyX0 tyX0_ok nmX0 (by decide) kf_X0_9 rfl rfl (by decide : 0 < 6) ((kd_E he _ _).trans (by simp only [sI, va_up_self]; rfl)) dX0_fill_2 (fun H locs hP hS => ?_)
  refine lv_aload_n hx hb dX0_fill_5 rfl (lv_at hl 0 rfl) ?_
  refine lv_lload_n hx hb dX0_fill_6 rfl (lv_at hl 2 rfl) ?_
  refine g_putL (T := TX0) C hP hS (14 + e0) 1 (by omega) (kd_E he _ _) rfl inwX0 tyX0 tyX0_ok nmX0 (by decide) kf_X0_15 rfl rfl (by decide : 1 < 6) ((kd_E he _ _).trans (by simp only [sL, va_up_self]; rfl)) dX0_fill_7 (fun H locs hP hS => ?_)
  refine lv_aload_n hx hb dX0_fill_10 rfl (lv_at hl 0 rfl) ?_
  refine lv_iload hx hb dX0_fill_11 (lv_at hl 3 rfl) ?_
  refine g_putI (T := TX0) C hP hS (14 + e0) 2 (by omega) (kd_E he _ _) rfl inwX0 tyX0 tyX0_ok nmX0 (by decide) kf_X0_19 rfl rfl (by decide : 2 < 6) ((kd_E he _ _).trans (by simp only [sI, va_up_self]; rfl)) dX0_fill_13 (fun H locs hP hS => ?_)
  refine lv_aload_n hx hb dX0_fill_16 rfl (lv_at hl 0 rfl) ?_
  refine lv_iload hx hb dX0_fill_17 (lv_at hl 4 rfl) ?_
  refine g_putI (T := TX0) C hP hS (14 + e0) 3 (by omega) (kd_E he _ _) rfl inwX0 tyX0 tyX0_ok nmX0 (by decide) kf_X0_22 rfl rfl (by decide : 3 < 6) ((kd_E he _ _).trans (by simp only [sI, va_up_self]; rfl)) dX0_fill_19 (fun H locs hP hS => ?_)
  refine lv_aload_n hx hb dX0_fill_22 rfl (lv_at hl 0 rfl) ?_
  refine lv_iload hx hb dX0_fill_23 (lv_at hl 5 rfl) ?_
  refine g_putI (T := TX0) C hP hS (14 + e0) 4 (by omega) (kd_E he _ _) rfl inwX0 tyX0 tyX0_ok nmX0 (by decide) kf_X0_25 rfl rfl (by decide : 4 < 6) ((kd_E he _ _).trans (by simp only [sI, va_up_self]; rfl)) dX0_fill_25 (fun H locs hP hS => ?_)
  exact gM_vret C hr hP hS (by decide) (by decide) dX0_fill_28 (⟨rfl, rfl⟩)
def pq_X1_isCertified (pp : Nat) (I : MI) (L : ML) : Int32 → MI → ML → Prop := fun r I' L' => ((I (95 + 4 * pp) 3) = (-1) ∧ (0 : Int32) = r ∧ I = I' ∧ L = L') ∨ (¬ (I (95 + 4 * pp) 3) = (-1) ∧ (1 : Int32) = r ∧ I = I' ∧ L = L')
set_option maxRecDepth 100000 in
set_option maxHeartbeats 4000000 in
theorem ct_X1_isCertified (l : Launch) (D : va_G) (cy : Nat → ClassId) (ad : Nat → Nat) (hJ : gJ ad) (pp : Nat) (I : MI) (L : ML) (hp : pp < 10) : gMi l D cy ad yX1_isCertified cX1_isCertified 1 .boolean (gR 5 0 0) [.ref (ad (95 + 4 * pp))] I L (pq_X1_isCertified pp I L) := by
  refine gMi_of hJ (by decide +kernel) kc_X1_isCertified (Nat.le_of_ble_eq_true rfl) (fun p e s m below meth c A ls C hr hP hS hl => ?_)
  have hx := C.hx
  have hb := C.hb
  have hl : lv_has ls 1 [(0, .ref (ad (95 + 4 * pp)))] := hl
  refine lv_aload_n hx hb dX1_isCertified_0 rfl (lv_at hl 0 rfl) ?_
  refine g_get (v := .int (I (95 + 4 * pp) 3)) (T := TX1) C hP (95 + 4 * pp) 3 (by omega) (kd_P hp _ _) rfl inwX1 (by decide) kf_X1_22 rfl dX1_isCertified_1 ?_
  refine lv_iconst (v := (-1)) hx hb dX1_isCertified_4 (by decide) ?_
  refine lv_icmp_eq (tgt := 12) hx hb dX1_isCertified_5 (by decide) (fun c5 => ?_) (fun c5 => ?_)
  · refine lv_iconst (v := 0) hx hb dX1_isCertified_12 (by decide) ?_
    exact gM_zret C hr narrow_b0 hP hS (by decide) (by decide) dX1_isCertified_13 (Or.inl (⟨c5, rfl, rfl, rfl⟩))
  · refine lv_iconst (v := 1) hx hb dX1_isCertified_8 (by decide) ?_
    refine lv_goto (tgt := 13) hx hb dX1_isCertified_9 (by decide) ?_
    exact gM_zret C hr narrow_b1 hP hS (by decide) (by decide) dX1_isCertified_13 (Or.inr (⟨c5, rfl, rfl, rfl⟩))
def pq_X1_hasLineFor (pp : Nat) (nn : Nat) (x1 : Int32) (I : MI) (L : ML) : Int32 → MI → ML → Prop := fun r I' L' => ((∃ k, k < nn ∧ I (96 + 4 * pp) k = x1) ∧ 1 = r ∧ I = I' ∧ L = L') ∨ (¬ (∃ k, k < nn ∧ I (96 + 4 * pp) k = x1) ∧ 0 = r ∧ I = I' ∧ L = L')
set_option maxRecDepth 100000 in
set_option maxHeartbeats 4000000 in
theorem ct_X1_hasLineFor (l : Launch) (D : va_G) (cy : Nat → ClassId) (ad : Nat → Nat) (hJ : gJ ad) (pp : Nat) (nn : Nat) (x1 : Int32) (I : MI) (L : ML) (hp : pp < 10) (hn : I (95 + 4 * pp) 2 = nI nn) (hn4 : nn ≤ 4) : gMi l D cy ad yX1_hasLineFor cX1_hasLineFor 3 .boolean (gR 5 0 0) [.ref (ad (95 + 4 * pp)), .int x1] I L (pq_X1_hasLineFor pp nn x1 I L) := by
  refine gMi_of hJ (by decide +kernel) kc_X1_hasLineFor (Nat.le_of_ble_eq_true rfl) (fun p e s m below meth c A ls C hr hP hS hl => ?_)
  have hx := C.hx
  have hb := C.hb
  have hl : lv_has ls 3 [(0, .ref (ad (95 + 4 * pp))), (1, .int x1)] := hl
  refine lv_iconst (v := 0) hx hb dX1_hasLineFor_0 (by decide) ?_
  refine lv_istore_n (lv' := [(2, .int 0), (0, .ref (ad (95 + 4 * pp))), (1, .int x1)]) hx hb dX1_hasLineFor_1 rfl hl (by decide) rfl (fun ls hl => ?_)
  have loop2 : ∀ (N : Nat) (i : Nat) (hi : i ≤ nn) (hno : ∀ k, k < i → ¬ I (96 + 4 * pp) k = x1) (hfu : nn < i + N) (H : Heap) (locs : List Loc) (ls : Array Slot), gP D cy ad I L H → va_S A s.heap H locs → lv_has ls 3 [(0, .ref (ad (95 + 4 * pp))), (1, .int x1), (2, .int (nI i))] → W p l e (gR 5 0 0) s m ([.ref (ad (95 + 4 * pp)), .int x1] : List Value).toArray below meth c H locs 0 0 (MQ below (gQi D cy ad A (pq_X1_hasLineFor pp nn x1 I L)) ([.ref (ad (95 + 4 * pp)), .int x1] : List Value).toArray s 0 0 A) (F0 m 2 ls []) := by
    intro N
    induction N with
    | zero =>
      intro i hi hno hfu
      exact absurd hfu (by omega)
    | succ N ih =>
      intro i hi hno hfu H locs ls hP hS hl
      refine lv_iload_n hx hb dX1_hasLineFor_2 rfl (lv_at hl 2 rfl) ?_
      refine lv_aload_n hx hb dX1_hasLineFor_3 rfl (lv_at hl 0 rfl) ?_
      refine g_get (v := .int (nI nn)) (T := TX1) C hP (95 + 4 * pp) 2 (by omega) (kd_P hp _ _) rfl inwX1 (by decide) kf_X1_18 (congrArg (fun z => some (Value.int z)) hn) dX1_hasLineFor_4 ?_
      refine lv_icmp_ge (tgt := 28) hx hb dX1_hasLineFor_7 (by decide) (fun c7 => ?_) (fun c7 => ?_)
      · have n7 : nn ≤ i := (nI_leeE rfl rfl (by omega) (by omega)).mp c7
        refine lv_iconst (v := 0) hx hb dX1_hasLineFor_28 (by decide) ?_
        exact gM_zret C hr narrow_b0 hP hS (by decide) (by decide) dX1_hasLineFor_29 (Or.inr ⟨fun ⟨k, hk, e⟩ => hno k (by omega) e, rfl, rfl, rfl⟩)  -- end 0: n7 : nn ≤ i
      · have n7 : ¬ nn ≤ i := (not_congr (nI_leeE rfl rfl (by omega) (by omega))).mp c7
        refine lv_aload_n hx hb dX1_hasLineFor_10 rfl (lv_at hl 0 rfl) ?_
        refine g_get (v := .ref (ad (96 + 4 * pp))) (T := TX1) C hP (95 + 4 * pp) 0 (by omega) (kd_P hp _ _) rfl inwX1 (by decide) kf_X1_9 rfl dX1_hasLineFor_11 ?_
        refine lv_iload_n hx hb dX1_hasLineFor_14 rfl (lv_at hl 2 rfl) ?_
        refine g_iald (v := I (96 + 4 * pp) i) C hP (96 + 4 * pp) 4 (by omega) (kd_PA hp) i rfl rfl (by omega) (by decide) dX1_hasLineFor_15 ?_
        refine lv_iload_n hx hb dX1_hasLineFor_16 rfl (lv_at hl 1 rfl) ?_
        refine lv_icmp_ne (tgt := 22) hx hb dX1_hasLineFor_17 (by decide) (fun c17 => ?_) (fun c17 => ?_)
        · refine lv_iinc (v := nI (i + 1)) (lv' := [(2, .int (nI (i + 1))), (0, .ref (ad (95 + 4 * pp))), (1, .int x1)]) hx hb dX1_hasLineFor_22 hl (k := 2) rfl (nI_1 _) (by decide) rfl (fun ls hl => ?_)
          refine lv_goto (tgt := 2) hx hb dX1_hasLineFor_25 (by decide) ?_
          exact ih (i + 1) (by omega) (lt_s hno c17) (by omega) _ _ _ hP hS (lv_sub hl [1, 2, 0] rfl)
        · refine lv_iconst (v := 1) hx hb dX1_hasLineFor_20 (by decide) ?_
          exact gM_zret C hr narrow_b1 hP hS (by decide) (by decide) dX1_hasLineFor_21 (Or.inl ⟨⟨i, by omega, c17⟩, rfl, rfl, rfl⟩)  -- end 1: n7 : ¬ nn ≤ i ; c17 : (I (96 + 4 * pp) i) = x1
  exact loop2 (nn + 1) 0 (Nat.zero_le _) (fun _ h => absurd h (Nat.not_lt_zero _)) (by omega) _ _ _ hP hS (lv_sub hl [1, 2, 0] rfl)
def pq_X1_appendLine (pp : Nat) (nn : Nat) (x1 : Int32) (x2 : Int32) (I : MI) (L : ML) : MI → ML → Prop := fun I' L' => ((sI (sI (sI I (96 + 4 * pp) nn x1) (97 + 4 * pp) nn x2) (95 + 4 * pp) 2 ((nI nn) + 1)) = I' ∧ L = L')
set_option maxRecDepth 100000 in
set_option maxHeartbeats 4000000 in
theorem ct_X1_appendLine (l : Launch) (D : va_G) (cy : Nat → ClassId) (ad : Nat → Nat) (hJ : gJ ad) (pp : Nat) (nn : Nat) (x1 : Int32) (x2 : Int32) (I : MI) (L : ML) (hp : pp < 10) (hn : I (95 + 4 * pp) 2 = nI nn) (hn4 : nn < 4) : gMv l D cy ad yX1_appendLine cX1_appendLine 3 (gR 5 0 0) [.ref (ad (95 + 4 * pp)), .int x1, .int x2] I L (pq_X1_appendLine pp nn x1 x2 I L) := by
  refine gMv_of hJ (by decide +kernel) kc_X1_appendLine (Nat.le_of_ble_eq_true rfl) (fun p e s m below meth c A ls C hr hP hS hl => ?_)
  have hx := C.hx
  have hb := C.hb
  have hl : lv_has ls 3 [(0, .ref (ad (95 + 4 * pp))), (1, .int x1), (2, .int x2)] := hl
  refine lv_aload_n hx hb dX1_appendLine_0 rfl (lv_at hl 0 rfl) ?_
  refine g_get (v := .ref (ad (96 + 4 * pp))) (T := TX1) C hP (95 + 4 * pp) 0 (by omega) (kd_P hp _ _) rfl inwX1 (by decide) kf_X1_9 rfl dX1_appendLine_1 ?_
  refine lv_aload_n hx hb dX1_appendLine_4 rfl (lv_at hl 0 rfl) ?_
  refine g_get (v := .int (nI nn)) (T := TX1) C hP (95 + 4 * pp) 2 (by omega) (kd_P hp _ _) rfl inwX1 (by decide) kf_X1_18 (congrArg (fun z => some (Value.int z)) hn) dX1_appendLine_5 ?_
  refine lv_iload_n hx hb dX1_appendLine_8 rfl (lv_at hl 1 rfl) ?_
  refine g_iast C hP hS (96 + 4 * pp) 4 (by omega) (kd_PA hp) nn rfl (by omega) (by decide) dX1_appendLine_9 (fun H locs hP hS => ?_)
  refine lv_aload_n hx hb dX1_appendLine_10 rfl (lv_at hl 0 rfl) ?_
  refine g_get (v := .ref (ad (97 + 4 * pp))) (T := TX1) C hP (95 + 4 * pp) 1 (by omega) (kd_P hp _ _) rfl inwX1 (by decide) kf_X1_15 rfl dX1_appendLine_11 ?_
  refine lv_aload_n hx hb dX1_appendLine_14 rfl (lv_at hl 0 rfl) ?_
  refine g_get (v := .int (nI nn)) (T := TX1) C hP (95 + 4 * pp) 2 (by omega) (kd_P hp _ _) rfl inwX1 (by decide) kf_X1_18 (congrArg (fun z => some (Value.int z)) ((congrFun (sI_row (by omega)) _).trans hn)) dX1_appendLine_15 ?_
  refine lv_iload_n hx hb dX1_appendLine_18 rfl (lv_at hl 2 rfl) ?_
  refine g_iast C hP hS (97 + 4 * pp) 4 (by omega) (kd_PS hp) nn rfl (by omega) (by decide) dX1_appendLine_19 (fun H locs hP hS => ?_)
  refine lv_aload_n hx hb dX1_appendLine_20 rfl (lv_at hl 0 rfl) ?_
  refine lv_dup hx hb dX1_appendLine_21 rfl ?_
  refine g_get (v := .int (nI nn)) (T := TX1) C hP (95 + 4 * pp) 2 (by omega) (kd_P hp _ _) rfl inwX1 (by decide) kf_X1_18 (congrArg (fun z => some (Value.int z)) ((congrFun (sI_row (by omega)) _).trans ((congrFun (sI_row (by omega)) _).trans hn))) dX1_appendLine_22 ?_
  refine lv_iconst (v := 1) hx hb dX1_appendLine_25 (by decide) ?_
  refine lv_iadd hx hb dX1_appendLine_26 ?_
  refine g_putI (T := TX1) C hP hS (95 + 4 * pp) 2 (by omega) (kd_P hp _ _) rfl inwX1 tyX1 tyX1_ok nmX1 (by decide) kf_X1_18 rfl rfl (by decide : 2 < 5) ((kd_P hp _ _).trans (by simp only [sI, va_up_self]; rfl)) dX1_appendLine_27 (fun H locs hP hS => ?_)
  exact gM_vret C hr hP hS (by decide) (by decide) dX1_appendLine_30 (⟨rfl, rfl⟩)
def pq_X1_shareSum (pp : Nat) (nn : Nat) (I : MI) (L : ML) : Int32 → MI → ML → Prop := fun r I' L' => gsm (I (97 + 4 * pp)) nn = r ∧ I = I' ∧ L = L'
set_option maxRecDepth 100000 in
set_option maxHeartbeats 4000000 in
theorem ct_X1_shareSum (l : Launch) (D : va_G) (cy : Nat → ClassId) (ad : Nat → Nat) (hJ : gJ ad) (pp : Nat) (nn : Nat) (I : MI) (L : ML) (hp : pp < 10) (hn : I (95 + 4 * pp) 2 = nI nn) (hn4 : nn ≤ 4) : gMi l D cy ad yX1_shareSum cX1_shareSum 3 .int (gR 5 0 0) [.ref (ad (95 + 4 * pp))] I L (pq_X1_shareSum pp nn I L) := by
  refine gMi_of hJ (by decide +kernel) kc_X1_shareSum (Nat.le_of_ble_eq_true rfl) (fun p e s m below meth c A ls C hr hP hS hl => ?_)
  have hx := C.hx
  have hb := C.hb
  have hl : lv_has ls 3 [(0, .ref (ad (95 + 4 * pp)))] := hl
  refine lv_iconst (v := 0) hx hb dX1_shareSum_0 (by decide) ?_
  refine lv_istore_n (lv' := [(1, .int 0), (0, .ref (ad (95 + 4 * pp)))]) hx hb dX1_shareSum_1 rfl hl (by decide) rfl (fun ls hl => ?_)
  refine lv_iconst (v := 0) hx hb dX1_shareSum_2 (by decide) ?_
  refine lv_istore_n (lv' := [(2, .int 0), (1, .int 0), (0, .ref (ad (95 + 4 * pp)))]) hx hb dX1_shareSum_3 rfl hl (by decide) rfl (fun ls hl => ?_)
  have loop4 : ∀ (N : Nat) (i : Nat) (hi : i ≤ nn) (hfu : nn < i + N) (H : Heap) (locs : List Loc) (ls : Array Slot), gP D cy ad I L H → va_S A s.heap H locs → lv_has ls 3 [(0, .ref (ad (95 + 4 * pp))), (1, .int (gsm (I (97 + 4 * pp)) i)), (2, .int (nI i))] → W p l e (gR 5 0 0) s m ([.ref (ad (95 + 4 * pp))] : List Value).toArray below meth c H locs 0 0 (MQ below (gQi D cy ad A (pq_X1_shareSum pp nn I L)) ([.ref (ad (95 + 4 * pp))] : List Value).toArray s 0 0 A) (F0 m 4 ls []) := by
    intro N
    induction N with
    | zero =>
      intro i hi hfu
      exact absurd hfu (by omega)
    | succ N ih =>
      intro i hi hfu H locs ls hP hS hl
      refine lv_iload_n hx hb dX1_shareSum_4 rfl (lv_at hl 2 rfl) ?_
      refine lv_aload_n hx hb dX1_shareSum_5 rfl (lv_at hl 0 rfl) ?_
      refine g_get (v := .int (nI nn)) (T := TX1) C hP (95 + 4 * pp) 2 (by omega) (kd_P hp _ _) rfl inwX1 (by decide) kf_X1_18 (congrArg (fun z => some (Value.int z)) hn) dX1_shareSum_6 ?_
      refine lv_icmp_ge (tgt := 27) hx hb dX1_shareSum_9 (by decide) (fun c9 => ?_) (fun c9 => ?_)
      · have n9 : nn ≤ i := (nI_leeE rfl rfl (by omega) (by omega)).mp c9
        refine lv_iload_n hx hb dX1_shareSum_27 rfl (lv_at hl 1 rfl) ?_
        exact gM_iret C hr hP hS (by decide) (by decide) dX1_shareSum_28 (⟨by rw [show nn = i by omega], rfl, rfl⟩)  -- end 0: n9 : nn ≤ i
      · have n9 : ¬ nn ≤ i := (not_congr (nI_leeE rfl rfl (by omega) (by omega))).mp c9
        refine lv_iload_n hx hb dX1_shareSum_12 rfl (lv_at hl 1 rfl) ?_
        refine lv_aload_n hx hb dX1_shareSum_13 rfl (lv_at hl 0 rfl) ?_
        refine g_get (v := .ref (ad (97 + 4 * pp))) (T := TX1) C hP (95 + 4 * pp) 1 (by omega) (kd_P hp _ _) rfl inwX1 (by decide) kf_X1_15 rfl dX1_shareSum_14 ?_
        refine lv_iload_n hx hb dX1_shareSum_17 rfl (lv_at hl 2 rfl) ?_
        refine g_iald (v := I (97 + 4 * pp) i) C hP (97 + 4 * pp) 4 (by omega) (kd_PS hp) i rfl rfl (by omega) (by decide) dX1_shareSum_18 ?_
        refine lv_iadd hx hb dX1_shareSum_19 ?_
        refine lv_istore_n (lv' := [(1, .int ((gsm (I (97 + 4 * pp)) i) + (I (97 + 4 * pp) i))), (0, .ref (ad (95 + 4 * pp))), (2, .int (nI i))]) hx hb dX1_shareSum_20 rfl hl (by decide) rfl (fun ls hl => ?_)
        refine lv_iinc (v := nI (i + 1)) (lv' := [(2, .int (nI (i + 1))), (1, .int ((gsm (I (97 + 4 * pp)) i) + (I (97 + 4 * pp) i))), (0, .ref (ad (95 + 4 * pp)))]) hx hb dX1_shareSum_21 hl (k := 2) rfl (nI_1 _) (by decide) rfl (fun ls hl => ?_)
        refine lv_goto (tgt := 4) hx hb dX1_shareSum_24 (by decide) ?_
        exact ih (i + 1) (by omega) (by omega) _ _ _ hP hS (lv_sub hl [2, 1, 0] rfl)
  exact loop4 (nn + 1) 0 (Nat.zero_le _) (by omega) _ _ _ hP hS (lv_sub hl [2, 1, 0] rfl)
def pq_X1_computePostings (pp : Nat) (nn : Nat) (x1 : Int64) (I : MI) (L : ML) : MI → ML → Prop := fun I' L' => I = I' ∧ va_up L 7 (gpw x1 (I (97 + 4 * pp)) nn (L 7)) = L'
set_option maxRecDepth 100000 in
set_option maxHeartbeats 4000000 in
theorem ct_X1_computePostings (l : Launch) (D : va_G) (cy : Nat → ClassId) (ad : Nat → Nat) (hJ : gJ ad) (pp : Nat) (nn : Nat) (x1 : Int64) (I : MI) (L : ML) (hp : pp < 10) (hn : I (95 + 4 * pp) 2 = nI nn) (hn1 : 1 ≤ nn) (hn4 : nn ≤ 4) : gMv l D cy ad yX1_computePostings cX1_computePostings 7 (gR 5 0 0) [.ref (ad (95 + 4 * pp)), .long x1, .ref (ad 7)] I L (pq_X1_computePostings pp nn x1 I L) := by
  refine gMv_of hJ (by decide +kernel) kc_X1_computePostings (Nat.le_of_ble_eq_true rfl) (fun p e s m below meth c A ls C hr hP hS hl => ?_)
  have hx := C.hx
  have hb := C.hb
  have hl : lv_has ls 7 [(0, .ref (ad (95 + 4 * pp))), (1, .long x1), (3, .ref (ad 7))] := hl
  refine lv_lconst (v := 0) hx hb dX1_computePostings_0 (by decide) ?_
  refine lv_lstore (lv' := [(4, .long 0), (0, .ref (ad (95 + 4 * pp))), (1, .long x1), (3, .ref (ad 7))]) hx hb dX1_computePostings_1 hl (by decide) rfl (fun ls hl => ?_)
  refine lv_iconst (v := 0) hx hb dX1_computePostings_3 (by decide) ?_
  refine lv_istore (lv' := [(6, .int 0), (4, .long 0), (0, .ref (ad (95 + 4 * pp))), (1, .long x1), (3, .ref (ad 7))]) hx hb dX1_computePostings_4 hl (by decide) rfl (fun ls hl => ?_)
  have loop6 : ∀ (N : Nat) (i : Nat) (L1 : ML) (hi : i + 1 ≤ nn) (hL0 : ∀ c, c ≠ 7 → L1 c = L c) (hL1 : ∀ k, k < i → L1 7 k = gq x1 (I (97 + 4 * pp)) k) (hL2 : ∀ k, i ≤ k → L1 7 k = L 7 k) (hfu : nn < i + N) (H : Heap) (locs : List Loc) (ls : Array Slot), gP D cy ad I L1 H → va_S A s.heap H locs → lv_has ls 7 [(0, .ref (ad (95 + 4 * pp))), (1, .long x1), (3, .ref (ad 7)), (4, .long (gsq x1 (I (97 + 4 * pp)) i)), (6, .int (nI i))] → W p l e (gR 5 0 0) s m ([.ref (ad (95 + 4 * pp)), .long x1, .ref (ad 7)] : List Value).toArray below meth c H locs 0 0 (MQ below (gQv D cy ad A (pq_X1_computePostings pp nn x1 I L)) ([.ref (ad (95 + 4 * pp)), .long x1, .ref (ad 7)] : List Value).toArray s 0 0 A) (F0 m 6 ls []) := by
    intro N
    induction N with
    | zero =>
      intro i L1 hi hL0 hL1 hL2 hfu
      exact absurd hfu (by omega)
    | succ N ih =>
      intro i L1 hi hL0 hL1 hL2 hfu H locs ls hP hS hl
      refine lv_iload hx hb dX1_computePostings_6 (lv_at hl 4 rfl) ?_
      refine lv_aload_n hx hb dX1_computePostings_8 rfl (lv_at hl 0 rfl) ?_
      refine g_get (v := .int (nI nn)) (T := TX1) C hP (95 + 4 * pp) 2 (by omega) (kd_P hp _ _) rfl inwX1 (by decide) kf_X1_18 (congrArg (fun z => some (Value.int z)) hn) dX1_computePostings_9 ?_
      refine lv_iconst (v := 1) hx hb dX1_computePostings_12 (by decide) ?_
      refine lv_isub hx hb dX1_computePostings_13 ?_
      refine lv_icmp_ge (tgt := 50) hx hb dX1_computePostings_14 (by decide) (fun c14 => ?_) (fun c14 => ?_)
      · have n14 : (nn - 1) ≤ i := (nI_leeE (nI_subE rfl (show (1 : Int32) = nI 1 from rfl) (by omega)) rfl (by omega) (by omega)).mp c14
        refine lv_aload_n hx hb dX1_computePostings_50 rfl (lv_at hl 2 rfl) ?_
        refine lv_aload_n hx hb dX1_computePostings_51 rfl (lv_at hl 0 rfl) ?_
        refine g_get (v := .int (nI nn)) (T := TX1) C hP (95 + 4 * pp) 2 (by omega) (kd_P hp _ _) rfl inwX1 (by decide) kf_X1_18 (congrArg (fun z => some (Value.int z)) hn) dX1_computePostings_52 ?_
        refine lv_iconst (v := 1) hx hb dX1_computePostings_55 (by decide) ?_
        refine lv_isub hx hb dX1_computePostings_56 ?_
        refine lv_lload hx hb dX1_computePostings_57 (lv_at hl 3 rfl) ?_
        refine lv_lneg hx hb dX1_computePostings_59 ?_
        refine g_last C hP hS 7 4 (by decide) (fun _ _ => rfl) (nn - 1) (nI_subE rfl (show (1 : Int32) = nI 1 from rfl) (by omega)) (by omega) (by decide) dX1_computePostings_60 (fun H locs hP hS => ?_)
        exact gM_vret C hr hP hS (by decide) (by decide) dX1_computePostings_61 (⟨rfl, gpw_end (by omega) (by omega) hL0 hL1 hL2⟩)  -- end 0: n14 : (nn - 1) ≤ i
      · have n14 : ¬ (nn - 1) ≤ i := (not_congr (nI_leeE (nI_subE rfl (show (1 : Int32) = nI 1 from rfl) (by omega)) rfl (by omega) (by omega))).mp c14
        refine lv_aload_n hx hb dX1_computePostings_17 rfl (lv_at hl 2 rfl) ?_
        refine lv_iload hx hb dX1_computePostings_18 (lv_at hl 4 rfl) ?_
        refine lv_lload_n hx hb dX1_computePostings_20 rfl (lv_at hl 1 rfl) ?_
        refine lv_aload_n hx hb dX1_computePostings_21 rfl (lv_at hl 0 rfl) ?_
        refine g_get (v := .ref (ad (97 + 4 * pp))) (T := TX1) C hP (95 + 4 * pp) 1 (by omega) (kd_P hp _ _) rfl inwX1 (by decide) kf_X1_15 rfl dX1_computePostings_22 ?_
        refine lv_iload hx hb dX1_computePostings_25 (lv_at hl 4 rfl) ?_
        refine g_iald (v := I (97 + 4 * pp) i) C hP (97 + 4 * pp) 4 (by omega) (kd_PS hp) i rfl rfl (by omega) (by decide) dX1_computePostings_27 ?_
        refine lv_i2l (v := (I (97 + 4 * pp) i).toInt64) hx hb dX1_computePostings_28 rfl ?_
        refine lv_lmul hx hb dX1_computePostings_29 ?_
        refine lv_ldc2 (v := 100) hx hb C.hown (C.hts _ kcn_X1_29) dX1_computePostings_30 ?_
        refine lv_ldiv hx hb dX1_computePostings_33 (by decide) ?_
        refine g_last C hP hS 7 4 (by decide) (fun _ _ => rfl) i rfl (by omega) (by decide) dX1_computePostings_34 (fun H locs hP hS => ?_)
        refine lv_lload hx hb dX1_computePostings_35 (lv_at hl 3 rfl) ?_
        refine lv_aload_n hx hb dX1_computePostings_37 rfl (lv_at hl 2 rfl) ?_
        refine lv_iload hx hb dX1_computePostings_38 (lv_at hl 4 rfl) ?_
        refine g_lald (v := (x1 * ((I (97 + 4 * pp) i).toInt64)) / 100) C hP 7 4 (by decide) (fun _ _ => rfl) i rfl sL_eq (by omega) (by decide) dX1_computePostings_40 ?_
        refine lv_ladd hx hb dX1_computePostings_41 ?_
        refine lv_lstore (lv' := [(4, .long ((gsq x1 (I (97 + 4 * pp)) i) + ((x1 * ((I (97 + 4 * pp) i).toInt64)) / 100))), (0, .ref (ad (95 + 4 * pp))), (1, .long x1), (3, .ref (ad 7)), (6, .int (nI i))]) hx hb dX1_computePostings_42 hl (by decide) rfl (fun ls hl => ?_)
        refine lv_iinc (v := nI (i + 1)) (lv' := [(6, .int (nI (i + 1))), (4, .long ((gsq x1 (I (97 + 4 * pp)) i) + ((x1 * ((I (97 + 4 * pp) i).toInt64)) / 100))), (0, .ref (ad (95 + 4 * pp))), (1, .long x1), (3, .ref (ad 7))]) hx hb dX1_computePostings_44 hl (k := 4) rfl (nI_1 _) (by decide) rfl (fun ls hl => ?_)
        refine lv_goto (tgt := 6) hx hb dX1_computePostings_47 (by decide) ?_
        exact ih (i + 1) _ (by omega) (fun c hc => (sL_row hc).trans (hL0 c hc)) (gpw_step hL1) (fun k hk => by rw [sL_at, if_neg (fun z => by omega)]; exact hL2 k (by omega)) (by omega) _ _ _ hP hS (lv_sub hl [2, 3, 4, 1, 0] rfl)
  exact loop6 (nn + 1) 0 L hn1 (fun _ _ => rfl) (fun _ h => absurd h (Nat.not_lt_zero _)) (fun _ _ => rfl) (by omega) _ _ _ hP hS (lv_sub hl [2, 3, 4, 1, 0] rfl)
