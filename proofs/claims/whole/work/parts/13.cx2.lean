def pq_X3_mayRun (np : Nat) (x1 : Int32) (x2 : Int32) (I : MI) (L : ML) : Int32 → MI → ML → Prop := fun r I' L' => (gMR np I x1 x2 ∧ 1 = r ∧ I = I' ∧ L = L') ∨ (¬ gMR np I x1 x2 ∧ 0 = r ∧ I = I' ∧ L = L')
set_option maxRecDepth 100000 in
set_option maxHeartbeats 4000000 in
theorem ct_X3_mayRun (l : Launch) (D : va_G) (cy : Nat → ClassId) (ad : Nat → Nat) (hJ : gJ ad) (np : Nat) (x1 : Int32) (x2 : Int32) (I : MI) (L : ML) (hnp : I 0 3 = nI np) (hnp10 : np ≤ 10) : gMi l D cy ad yX3_mayRun cX3_mayRun 4 .boolean (gR 4 0 0) [.ref (ad 0), .int x1, .int x2] I L (pq_X3_mayRun np x1 x2 I L) := by
  refine gMi_of hJ (by decide +kernel) kc_X3_mayRun (Nat.le_of_ble_eq_true rfl) (fun p e s m below meth c A ls C hr hP hS hl => ?_)
  have hx := C.hx
  have hb := C.hb
  have hl : lv_has ls 4 [(0, .ref (ad 0)), (1, .int x1), (2, .int x2)] := hl
  refine lv_iload_n hx hb dX3_mayRun_0 rfl (lv_at hl 1 rfl) ?_
  refine gM_callSi (As := [.int x1]) (rest := []) C hP hS hl.1 (ct_X3_isUser l D cy ad hJ x1 I L) fa_X3_isUser kl_X3_206 kst_X3_isUser rfl (by decide) (Nat.le_of_ble_eq_true rfl) (by decide) dX3_mayRun_1 rfl (fun r1 I1 L1 H locs hq hP hS => ?_)
  rcases hq with ⟨h1_0, rfl, rfl, rfl⟩ | ⟨h1_0, rfl, rfl, rfl⟩
  · obtain ⟨e1_0, l1_0⟩ := vp_ix h1_0
    refine lv_if_eq (tgt := 15) hx hb dX3_mayRun_4 (by decide) (fun c => absurd c (by decide)) (fun c => ?_)
    refine lv_aload_n hx hb dX3_mayRun_7 rfl (lv_at hl 0 rfl) ?_
    refine lv_iload_n hx hb dX3_mayRun_8 rfl (lv_at hl 2 rfl) ?_
    refine gM_callVi (As := [.int x2]) (rest := []) C hP hS hl.1 (ct_X3_isProcedure l D cy ad hJ np x2 I L hnp hnp10) fa_X3_isProcedure kl_X3_209 ki_X3_isProcedure kse_X3_isProcedure (by decide) (T := TX3) rfl rfl rfl (by decide) (Nat.le_of_ble_eq_true rfl) (by decide) dX3_mayRun_9 rfl (fun r9 I9 L9 H locs hq hP hS => ?_)
    rcases hq with ⟨h9_0, rfl, rfl, rfl⟩ | ⟨h9_0, rfl, rfl, rfl⟩
    · obtain ⟨e9_0, l9_0⟩ := vp_ix h9_0
      refine lv_if_ne (tgt := 17) hx hb dX3_mayRun_12 (by decide) (fun c => ?_) (fun c => absurd c (by decide))
      refine lv_aload_n hx hb dX3_mayRun_17 rfl (lv_at hl 0 rfl) ?_
      refine g_get (v := .ref (ad 3)) (T := TX3) C hP 0 2 (by decide) rfl rfl inwX3 (by decide) kf_X3_18 rfl dX3_mayRun_18 ?_
      refine lv_iload_n hx hb dX3_mayRun_21 rfl (lv_at hl 2 rfl) ?_
      refine g_aldP C hP x2.toNatClampNeg e9_0 (by omega) dX3_mayRun_22 ?_
      refine lv_astore_n (lv' := [(3, .ref (ad (95 + 4 * x2.toNatClampNeg))), (0, .ref (ad 0)), (1, .int x1), (2, .int x2)]) hx hb dX3_mayRun_23 rfl hl (by decide) rfl (fun ls hl => ?_)
      refine lv_aload_n hx hb dX3_mayRun_24 rfl (lv_at hl 0 rfl) ?_
      refine gM_callVNi (As := []) (rest := []) C hP hS hl.1 (ct_X1_isCertified l D cy ad hJ x2.toNatClampNeg I L (by omega)) fa_X1_isCertified kn_m84 ki_X1_isCertified kse_X1_isCertified (by omega) (T := TX1) (kd_P (by omega) _ _) rfl rfl (by decide) (Nat.le_of_ble_eq_true rfl) (by decide) dX3_mayRun_25 rfl (fun r25 I25 L25 H locs hq hP hS => ?_)
      rcases hq with ⟨h25_0, rfl, rfl, rfl⟩ | ⟨h25_0, rfl, rfl, rfl⟩
      · refine lv_if_eq (tgt := 52) hx hb dX3_mayRun_28 (by decide) (fun c => ?_) (fun c => absurd c (by decide))
        refine lv_iconst (v := 0) hx hb dX3_mayRun_52 (by decide) ?_
        exact gM_zret C hr narrow_b0 hP hS (by decide) (by decide) dX3_mayRun_53 (Or.inr ⟨fun h => h.2.2.1 h25_0, rfl, rfl, rfl⟩)  -- end 0: h1_0 : vp_in x1 8 ; h9_0 : vp_in x2 np ; h25_0 : (I (95 + 4 * x2.toNatClampNeg) 3) = (-1)
      · refine lv_if_eq (tgt := 52) hx hb dX3_mayRun_28 (by decide) (fun c => absurd c (by decide)) (fun c => ?_)
        refine lv_aload_n hx hb dX3_mayRun_31 rfl (lv_at hl 0 rfl) ?_
        refine g_getN (v := .int (I (95 + 4 * x2.toNatClampNeg) 3)) (T := TX1) C hP (95 + 4 * x2.toNatClampNeg) 3 (by omega) (kd_P (by omega) _ _) rfl inwX1 (by decide) kn_f105 rfl dX3_mayRun_32 ?_
        refine lv_iload_n hx hb dX3_mayRun_35 rfl (lv_at hl 2 rfl) ?_
        refine lv_icmp_eq (tgt := 52) hx hb dX3_mayRun_36 (by decide) (fun c36 => ?_) (fun c36 => ?_)
        · refine lv_iconst (v := 0) hx hb dX3_mayRun_52 (by decide) ?_
          exact gM_zret C hr narrow_b0 hP hS (by decide) (by decide) dX3_mayRun_53 (Or.inr ⟨fun h => h.2.2.2.1 c36, rfl, rfl, rfl⟩)  -- end 1: h1_0 : vp_in x1 8 ; h9_0 : vp_in x2 np ; h25_0 : ¬ (I (95 + 4 * x2.toNatClampNeg) 3) = (-1) ; c36 : (I (95 + 4 * x2.toNatClampNeg) 3) = x1
        · refine lv_aload_n hx hb dX3_mayRun_39 rfl (lv_at hl 0 rfl) ?_
          refine g_getN (v := .ref (ad (98 + 4 * x2.toNatClampNeg))) (T := TX1) C hP (95 + 4 * x2.toNatClampNeg) 4 (by omega) (kd_P (by omega) _ _) rfl inwX1 (by decide) kn_f113 rfl dX3_mayRun_40 ?_
          refine lv_iload_n hx hb dX3_mayRun_43 rfl (lv_at hl 2 rfl) ?_
          refine g_zald (v := I (98 + 4 * x2.toNatClampNeg) x1.toNatClampNeg) C hP (98 + 4 * x2.toNatClampNeg) 8 (by omega) (kd_PG (by omega)) x1.toNatClampNeg e1_0 rfl (by omega) (by decide) dX3_mayRun_44 ?_
          refine lv_if_eq (tgt := 52) hx hb dX3_mayRun_45 (by decide) (fun c45 => ?_) (fun c45 => ?_)
          · refine lv_iconst (v := 0) hx hb dX3_mayRun_52 (by decide) ?_
            exact gM_zret C hr narrow_b0 hP hS (by decide) (by decide) dX3_mayRun_53 (Or.inr ⟨fun h => h.2.2.2.2 c45, rfl, rfl, rfl⟩)  -- end 2: h1_0 : vp_in x1 8 ; h9_0 : vp_in x2 np ; h25_0 : ¬ (I (95 + 4 * x2.toNatClampNeg) 3) = (-1) ; c36 : ¬ (I (95 + 4 * x2.toNatClampNeg) 3) = x1 ; c45 : (I (98 + 4 * x2.toNatClampNeg) x1.toNatClampNeg) = 0
          · refine lv_iconst (v := 1) hx hb dX3_mayRun_48 (by decide) ?_
            refine lv_goto (tgt := 53) hx hb dX3_mayRun_49 (by decide) ?_
            exact gM_zret C hr narrow_b1 hP hS (by decide) (by decide) dX3_mayRun_53 (Or.inl ⟨⟨h1_0, h9_0, h25_0, c36, c45⟩, rfl, rfl, rfl⟩)  -- end 3: h1_0 : vp_in x1 8 ; h9_0 : vp_in x2 np ; h25_0 : ¬ (I (95 + 4 * x2.toNatClampNeg) 3) = (-1) ; c36 : ¬ (I (95 + 4 * x2.toNatClampNeg) 3) = x1 ; c45 : ¬ (I (98 + 4 * x2.toNatClampNeg) x1.toNatClampNeg) = 0
    · refine lv_if_ne (tgt := 17) hx hb dX3_mayRun_12 (by decide) (fun c => absurd c (by decide)) (fun c => ?_)
      refine lv_iconst (v := 0) hx hb dX3_mayRun_15 (by decide) ?_
      exact gM_zret C hr narrow_b0 hP hS (by decide) (by decide) dX3_mayRun_16 (Or.inr ⟨fun h => h9_0 h.2.1, rfl, rfl, rfl⟩)  -- end 4: h1_0 : vp_in x1 8 ; h9_0 : ¬ vp_in x2 np
  · refine lv_if_eq (tgt := 15) hx hb dX3_mayRun_4 (by decide) (fun c => ?_) (fun c => absurd c (by decide))
    refine lv_iconst (v := 0) hx hb dX3_mayRun_15 (by decide) ?_
    exact gM_zret C hr narrow_b0 hP hS (by decide) (by decide) dX3_mayRun_16 (Or.inr ⟨fun h => h1_0 h.1, rfl, rfl, rfl⟩)  -- end 5: h1_0 : ¬ vp_in x1 8
def pq_X3_requireMayRun (np : Nat) (x1 : Int32) (x2 : Int32) (I : MI) (L : ML) : MI → ML → Prop := fun I' L' => gMR np I x1 x2 ∧ I = I' ∧ L = L'
def px_X3_requireMayRun (np : Nat) (x1 : Int32) (x2 : Int32) (I : MI) (L : ML) : String → MI → ML → Prop := fun E I' L' => (¬ gMR np I x1 x2 ∧ xUO = E ∧ I = I' ∧ L = L')
set_option maxRecDepth 100000 in
set_option maxHeartbeats 4000000 in
theorem ct_X3_requireMayRun (l : Launch) (D : va_G) (cy : Nat → ClassId) (ad : Nat → Nat) (hJ : gJ ad) (hlf : l.stackTraces = false) (np : Nat) (x1 : Int32) (x2 : Int32) (I : MI) (L : ML) (hnp : I 0 3 = nI np) (hnp10 : np ≤ 10) : gTv l D cy ad yX3_requireMayRun cX3_requireMayRun 3 (gR 3 1 6) [.ref (ad 0), .int x1, .int x2] I L (pq_X3_requireMayRun np x1 x2 I L) (px_X3_requireMayRun np x1 x2 I L) := by
  refine gTv_of hJ (by decide +kernel) kc_X3_requireMayRun (Nat.le_of_ble_eq_true rfl) (fun p e s m below meth c A ls C hr ht hP hS hl => ?_)
  have hx := C.hx
  have hb := C.hb
  have hl : lv_has ls 3 [(0, .ref (ad 0)), (1, .int x1), (2, .int x2)] := hl
  refine lv_aload_n hx hb dX3_requireMayRun_0 rfl (lv_at hl 0 rfl) ?_
  refine lv_iload_n hx hb dX3_requireMayRun_1 rfl (lv_at hl 1 rfl) ?_
  refine lv_iload_n hx hb dX3_requireMayRun_2 rfl (lv_at hl 2 rfl) ?_
  refine gM_callVi (As := [.int x1, .int x2]) (rest := []) C hP hS hl.1 (ct_X3_mayRun l D cy ad hJ np x1 x2 I L hnp hnp10) fa_X3_mayRun kl_X3_212 ki_X3_mayRun kse_X3_mayRun (by decide) (T := TX3) rfl rfl rfl (by decide) (Nat.le_of_ble_eq_true rfl) (by decide) dX3_requireMayRun_3 rfl (fun r3 I3 L3 H locs hq hP hS => ?_)
  rcases hq with ⟨h3_0, rfl, rfl, rfl⟩ | ⟨h3_0, rfl, rfl, rfl⟩
  · obtain ⟨e3_0_1, l3_0_1⟩ := vp_ix h3_0.1
    obtain ⟨e3_0_2_1, l3_0_2_1⟩ := vp_ix h3_0.2.1
    refine lv_if_ne (tgt := 20) hx hb dX3_requireMayRun_6 (by decide) (fun c => ?_) (fun c => absurd c (by decide))
    exact gT_vret C hr hP hS (by decide) (by decide) dX3_requireMayRun_20 (⟨h3_0, rfl, rfl⟩)  -- end 0: h3_0 : gMR np I x1 x2
  · refine lv_if_ne (tgt := 20) hx hb dX3_requireMayRun_6 (by decide) (fun c => absurd c (by decide)) (fun c => ?_)
    exact g_throwSW (cls := xUO) C hlf hP hS hl.1 (by decide) kcl_X3_108 kini_UnsupportedOperationException ks_257 gat_112 gan_112 gao_112 dX3_requireMayRun_9 dX3_requireMayRun_12 dX3_requireMayRun_13 dX3_requireMayRun_16 dX3_requireMayRun_19 ht (by decide) (by decide) (by decide) (by decide) (by decide) ⟨h3_0, rfl, rfl, rfl⟩
def pq_X3_requireRequest (x1 : Int32) (I : MI) (L : ML) : MI → ML → Prop := fun I' L' => (vp_in x1 6 ∧ ¬ I (8 + x1.toNatClampNeg) 0 = -1) ∧ I = I' ∧ L = L'
def px_X3_requireRequest (x1 : Int32) (I : MI) (L : ML) : String → MI → ML → Prop := fun E I' L' => ((¬ (vp_in x1 6 ∧ ¬ I (8 + x1.toNatClampNeg) 0 = -1)) ∧ xIO = E ∧ I = I' ∧ L = L')
set_option maxRecDepth 100000 in
set_option maxHeartbeats 4000000 in
theorem ct_X3_requireRequest (l : Launch) (D : va_G) (cy : Nat → ClassId) (ad : Nat → Nat) (hJ : gJ ad) (hlf : l.stackTraces = false) (x1 : Int32) (I : MI) (L : ML) : gTv l D cy ad yX3_requireRequest cX3_requireRequest 2 (gR 4 1 6) [.ref (ad 0), .int x1] I L (pq_X3_requireRequest x1 I L) (px_X3_requireRequest x1 I L) := by
  refine gTv_of hJ (by decide +kernel) kc_X3_requireRequest (Nat.le_of_ble_eq_true rfl) (fun p e s m below meth c A ls C hr ht hP hS hl => ?_)
  have hx := C.hx
  have hb := C.hb
  have hl : lv_has ls 2 [(0, .ref (ad 0)), (1, .int x1)] := hl
  refine lv_iload_n hx hb dX3_requireRequest_0 rfl (lv_at hl 1 rfl) ?_
  refine lv_if_lt (tgt := 22) hx hb dX3_requireRequest_1 (by decide) (fun c1 => ?_) (fun c1 => ?_)
  · exact g_throwSW (cls := xIO) C hlf hP hS hl.1 (by decide) kcl_X3_194 kini_IndexOutOfBoundsException ks_261 gat_198 gan_198 gao_198 dX3_requireRequest_22 dX3_requireRequest_25 dX3_requireRequest_26 dX3_requireRequest_29 dX3_requireRequest_32 ht (by decide) (by decide) (by decide) (by decide) (by decide) ⟨fun h => vpC c1 h.1, rfl, rfl, rfl⟩
  · refine lv_iload_n hx hb dX3_requireRequest_4 rfl (lv_at hl 1 rfl) ?_
    refine lv_bipush (v := 6) hx hb dX3_requireRequest_5 (by decide) ?_
    refine lv_icmp_ge (tgt := 22) hx hb dX3_requireRequest_7 (by decide) (fun c7 => ?_) (fun c7 => ?_)
    · exact g_throwSW (cls := xIO) C hlf hP hS hl.1 (by decide) kcl_X3_194 kini_IndexOutOfBoundsException ks_261 gat_198 gan_198 gao_198 dX3_requireRequest_22 dX3_requireRequest_25 dX3_requireRequest_26 dX3_requireRequest_29 dX3_requireRequest_32 ht (by decide) (by decide) (by decide) (by decide) (by decide) ⟨fun h => vpB c7 rfl h.1, rfl, rfl, rfl⟩
    · have v7 : vp_in x1 6 := vpA c1 c7 rfl
      obtain ⟨e7, l7⟩ := vp_ix v7
      refine lv_aload_n hx hb dX3_requireRequest_10 rfl (lv_at hl 0 rfl) ?_
      refine g_get (v := .ref (ad 4)) (T := TX3) C hP 0 4 (by decide) rfl rfl inwX3 (by decide) kf_X3_28 rfl dX3_requireRequest_11 ?_
      refine lv_iload_n hx hb dX3_requireRequest_14 rfl (lv_at hl 1 rfl) ?_
      refine g_aldQ C hP x1.toNatClampNeg e7 (by omega) dX3_requireRequest_15 ?_
      refine gM_callVNi (As := []) (rest := []) C hP hS hl.1 (ct_X2_isInUse l D cy ad hJ x1.toNatClampNeg I L (by omega)) fa_X2_isInUse kn_m216 ki_X2_isInUse kse_X2_isInUse (by omega) (T := TX2) (kd_Q (by omega) _ _) rfl rfl (by decide) (Nat.le_of_ble_eq_true rfl) (by decide) dX3_requireRequest_16 rfl (fun r16 I16 L16 H locs hq hP hS => ?_)
      rcases hq with ⟨h16_0, rfl, rfl, rfl⟩ | ⟨h16_0, rfl, rfl, rfl⟩
      · refine lv_if_ne (tgt := 33) hx hb dX3_requireRequest_19 (by decide) (fun c => absurd c (by decide)) (fun c => ?_)
        exact g_throwSW (cls := xIO) C hlf hP hS hl.1 (by decide) kcl_X3_194 kini_IndexOutOfBoundsException ks_261 gat_198 gan_198 gao_198 dX3_requireRequest_22 dX3_requireRequest_25 dX3_requireRequest_26 dX3_requireRequest_29 dX3_requireRequest_32 ht (by decide) (by decide) (by decide) (by decide) (by decide) ⟨fun h => h.2 h16_0, rfl, rfl, rfl⟩
      · refine lv_if_ne (tgt := 33) hx hb dX3_requireRequest_19 (by decide) (fun c => ?_) (fun c => absurd c (by decide))
        exact gT_vret C hr hP hS (by decide) (by decide) dX3_requireRequest_33 (⟨⟨v7, h16_0⟩, rfl, rfl⟩)  -- end 0: c1 : ¬ x1 < 0 ; c7 : ¬ 6 ≤ x1 ; h16_0 : ¬ (I (8 + x1.toNatClampNeg) 0) = (-1)
def pq_X3_mayApprove (np : Nat) (qq : Nat) (x1 : Int32) (I : MI) (L : ML) : Int32 → MI → ML → Prop := fun r I' L' => ((gMR np I x1 (I (8 + qq) 1) ∧ ¬ I (8 + qq) 0 = x1) ∧ 1 = r ∧ I = I' ∧ L = L') ∨ (¬ (gMR np I x1 (I (8 + qq) 1) ∧ ¬ I (8 + qq) 0 = x1) ∧ 0 = r ∧ I = I' ∧ L = L')
set_option maxRecDepth 100000 in
set_option maxHeartbeats 4000000 in
theorem ct_X3_mayApprove (l : Launch) (D : va_G) (cy : Nat → ClassId) (ad : Nat → Nat) (hJ : gJ ad) (np : Nat) (qq : Nat) (x1 : Int32) (I : MI) (L : ML) (hnp : I 0 3 = nI np) (hnp10 : np ≤ 10) (hq : qq < 6) : gMi l D cy ad yX3_mayApprove cX3_mayApprove 3 .boolean (gR 3 0 0) [.ref (ad 0), .int x1, .ref (ad (8 + qq))] I L (pq_X3_mayApprove np qq x1 I L) := by
  refine gMi_of hJ (by decide +kernel) kc_X3_mayApprove (Nat.le_of_ble_eq_true rfl) (fun p e s m below meth c A ls C hr hP hS hl => ?_)
  have hx := C.hx
  have hb := C.hb
  have hl : lv_has ls 3 [(0, .ref (ad 0)), (1, .int x1), (2, .ref (ad (8 + qq)))] := hl
  refine lv_aload_n hx hb dX3_mayApprove_0 rfl (lv_at hl 0 rfl) ?_
  refine lv_iload_n hx hb dX3_mayApprove_1 rfl (lv_at hl 1 rfl) ?_
  refine lv_aload_n hx hb dX3_mayApprove_2 rfl (lv_at hl 2 rfl) ?_
  refine g_getN (v := .int (I (8 + qq) 1)) (T := TX2) C hP (8 + qq) 1 (by omega) (kd_Q hq _ _) rfl inwX2 (by decide) kn_f155 rfl dX3_mayApprove_3 ?_
  refine gM_callVi (As := [.int x1, .int (I (8 + qq) 1)]) (rest := []) C hP hS hl.1 (ct_X3_mayRun l D cy ad hJ np x1 (I (8 + qq) 1) I L hnp hnp10) fa_X3_mayRun kl_X3_212 ki_X3_mayRun kse_X3_mayRun (by decide) (T := TX3) rfl rfl rfl (by decide) (Nat.le_of_ble_eq_true rfl) (by decide) dX3_mayApprove_6 rfl (fun r6 I6 L6 H locs hq hP hS => ?_)
  rcases hq with ⟨h6_0, rfl, rfl, rfl⟩ | ⟨h6_0, rfl, rfl, rfl⟩
  · obtain ⟨e6_0_1, l6_0_1⟩ := vp_ix h6_0.1
    obtain ⟨e6_0_2_1, l6_0_2_1⟩ := vp_ix h6_0.2.1
    refine lv_if_eq (tgt := 24) hx hb dX3_mayApprove_9 (by decide) (fun c => absurd c (by decide)) (fun c => ?_)
    refine lv_aload_n hx hb dX3_mayApprove_12 rfl (lv_at hl 2 rfl) ?_
    refine g_getN (v := .int (I (8 + qq) 0)) (T := TX2) C hP (8 + qq) 0 (by omega) (kd_Q hq _ _) rfl inwX2 (by decide) kn_f152 rfl dX3_mayApprove_13 ?_
    refine lv_iload_n hx hb dX3_mayApprove_16 rfl (lv_at hl 1 rfl) ?_
    refine lv_icmp_eq (tgt := 24) hx hb dX3_mayApprove_17 (by decide) (fun c17 => ?_) (fun c17 => ?_)
    · refine lv_iconst (v := 0) hx hb dX3_mayApprove_24 (by decide) ?_
      exact gM_zret C hr narrow_b0 hP hS (by decide) (by decide) dX3_mayApprove_25 (Or.inr ⟨fun h => h.2 c17, rfl, rfl, rfl⟩)  -- end 0: h6_0 : gMR np I x1 (I (8 + qq) 1) ; c17 : (I (8 + qq) 0) = x1
    · refine lv_iconst (v := 1) hx hb dX3_mayApprove_20 (by decide) ?_
      refine lv_goto (tgt := 25) hx hb dX3_mayApprove_21 (by decide) ?_
      exact gM_zret C hr narrow_b1 hP hS (by decide) (by decide) dX3_mayApprove_25 (Or.inl ⟨⟨h6_0, c17⟩, rfl, rfl, rfl⟩)  -- end 1: h6_0 : gMR np I x1 (I (8 + qq) 1) ; c17 : ¬ (I (8 + qq) 0) = x1
  · refine lv_if_eq (tgt := 24) hx hb dX3_mayApprove_9 (by decide) (fun c => ?_) (fun c => absurd c (by decide))
    refine lv_iconst (v := 0) hx hb dX3_mayApprove_24 (by decide) ?_
    exact gM_zret C hr narrow_b0 hP hS (by decide) (by decide) dX3_mayApprove_25 (Or.inr ⟨fun h => h6_0 h.1, rfl, rfl, rfl⟩)  -- end 2: h6_0 : ¬ gMR np I x1 (I (8 + qq) 1)
def pq_X3_fileRequest (x1 : Int32) (x2 : Int32) (x3 : Int64) (I : MI) (L : ML) : Int32 → MI → ML → Prop := fun r I' L' => gfq (fun k => I (8 + k) 0) < 6 ∧ nI (gfq (fun k => I (8 + k) 0)) = r ∧ sI (sI I (8 + gfq (fun k => I (8 + k) 0)) 0 x1) (8 + gfq (fun k => I (8 + k) 0)) 1 x2 = I' ∧ sL L (8 + gfq (fun k => I (8 + k) 0)) 2 x3 = L'
def px_X3_fileRequest (x1 : Int32) (x2 : Int32) (x3 : Int64) (I : MI) (L : ML) : String → MI → ML → Prop := fun E I' L' => (¬ gfq (fun k => I (8 + k) 0) < 6 ∧ xIS = E ∧ I = I' ∧ L = L')
set_option maxRecDepth 100000 in
set_option maxHeartbeats 4000000 in
theorem ct_X3_fileRequest (l : Launch) (D : va_G) (cy : Nat → ClassId) (ad : Nat → Nat) (hJ : gJ ad) (hlf : l.stackTraces = false) (x1 : Int32) (x2 : Int32) (x3 : Int64) (I : MI) (L : ML) : gTi l D cy ad yX3_fileRequest cX3_fileRequest 6 .int (gR 3 1 6) [.ref (ad 0), .int x1, .int x2, .long x3] I L (pq_X3_fileRequest x1 x2 x3 I L) (px_X3_fileRequest x1 x2 x3 I L) := by
  refine gTi_of hJ (by decide +kernel) kc_X3_fileRequest (Nat.le_of_ble_eq_true rfl) (fun p e s m below meth c A ls C hr ht hP hS hl => ?_)
  have hx := C.hx
  have hb := C.hb
  have hl : lv_has ls 6 [(0, .ref (ad 0)), (1, .int x1), (2, .int x2), (3, .long x3)] := hl
  refine lv_iconst (v := 0) hx hb dX3_fileRequest_0 (by decide) ?_
  refine lv_istore (lv' := [(5, .int 0), (0, .ref (ad 0)), (1, .int x1), (2, .int x2), (3, .long x3)]) hx hb dX3_fileRequest_1 hl (by decide) rfl (fun ls hl => ?_)
  have loop3 : ∀ (N : Nat) (i : Nat) (hi : i ≤ 6) (hno : ∀ k, k < i → ¬ I (8 + k) 0 = -1) (hfu : 6 < i + N) (H : Heap) (locs : List Loc) (ls : Array Slot), gP D cy ad I L H → va_S A s.heap H locs → lv_has ls 6 [(0, .ref (ad 0)), (1, .int x1), (2, .int x2), (3, .long x3), (5, .int (nI i))] → W p l e (gR 3 1 6) s m ([.ref (ad 0), .int x1, .int x2, .long x3] : List Value).toArray below meth c H locs 0 0 (vx_MQ below (gQi D cy ad A (pq_X3_fileRequest x1 x2 x3 I L)) (gXC D cy ad A (px_X3_fileRequest x1 x2 x3 I L)) ([.ref (ad 0), .int x1, .int x2, .long x3] : List Value).toArray s 1 6 A) (F0 m 3 ls []) := by
    intro N
    induction N with
    | zero =>
      intro i hi hno hfu
      exact absurd hfu (by omega)
    | succ N ih =>
      intro i hi hno hfu H locs ls hP hS hl
      refine lv_iload hx hb dX3_fileRequest_3 (lv_at hl 4 rfl) ?_
      refine lv_bipush (v := 6) hx hb dX3_fileRequest_5 (by decide) ?_
      refine lv_icmp_ge (tgt := 45) hx hb dX3_fileRequest_7 (by decide) (fun c7 => ?_) (fun c7 => ?_)
      · have n7 : 6 ≤ i := (nI_leeE (show (6 : Int32) = nI 6 from rfl) rfl (by omega) (by omega)).mp c7
        exact g_throwS (cls := xIS) C hlf hP hS hl.1 (by decide) kcl_X3_61 kini_IllegalStateException ks_223 gat_65 gan_65 gao_65 dX3_fileRequest_45 dX3_fileRequest_48 dX3_fileRequest_49 dX3_fileRequest_51 dX3_fileRequest_54 ht (by decide) (by decide) (by decide) (by decide) (by decide) ⟨by rw [gfq_6 (fun k hk => hno k (by omega))]; decide, rfl, rfl, rfl⟩
      · have n7 : ¬ 6 ≤ i := (not_congr (nI_leeE (show (6 : Int32) = nI 6 from rfl) rfl (by omega) (by omega))).mp c7
        refine lv_aload_n hx hb dX3_fileRequest_10 rfl (lv_at hl 0 rfl) ?_
        refine g_get (v := .ref (ad 4)) (T := TX3) C hP 0 4 (by decide) rfl rfl inwX3 (by decide) kf_X3_28 rfl dX3_fileRequest_11 ?_
        refine lv_iload hx hb dX3_fileRequest_14 (lv_at hl 4 rfl) ?_
        refine g_aldQ C hP i rfl (by omega) dX3_fileRequest_16 ?_
        refine gM_callVNi (As := []) (rest := []) C hP hS hl.1 (ct_X2_isInUse l D cy ad hJ i I L (by omega)) fa_X2_isInUse kn_m216 ki_X2_isInUse kse_X2_isInUse (by omega) (T := TX2) (kd_Q (by omega) _ _) rfl rfl (by decide) (Nat.le_of_ble_eq_true rfl) (by decide) dX3_fileRequest_17 rfl (fun r17 I17 L17 H locs hq hP hS => ?_)
        rcases hq with ⟨h17_0, rfl, rfl, rfl⟩ | ⟨h17_0, rfl, rfl, rfl⟩
        · refine lv_if_ne (tgt := 39) hx hb dX3_fileRequest_20 (by decide) (fun c => absurd c (by decide)) (fun c => ?_)
          refine lv_aload_n hx hb dX3_fileRequest_23 rfl (lv_at hl 0 rfl) ?_
          refine g_get (v := .ref (ad 4)) (T := TX3) C hP 0 4 (by decide) rfl rfl inwX3 (by decide) kf_X3_28 rfl dX3_fileRequest_24 ?_
          refine lv_iload hx hb dX3_fileRequest_27 (lv_at hl 4 rfl) ?_
          refine g_aldQ C hP i rfl (by omega) dX3_fileRequest_29 ?_
          refine lv_iload_n hx hb dX3_fileRequest_30 rfl (lv_at hl 1 rfl) ?_
          refine lv_iload_n hx hb dX3_fileRequest_31 rfl (lv_at hl 2 rfl) ?_
          refine lv_lload_n hx hb dX3_fileRequest_32 rfl (lv_at hl 3 rfl) ?_
          refine gM_callVNv (As := [.int x1, .int x2, .long x3]) (rest := []) C hP hS hl.1 (ct_X2_fill l D cy ad hJ i x1 x2 x3 I L (by omega)) fa_X2_fill kn_m219 ki_X2_fill kse_X2_fill (by omega) (T := TX2) (kd_Q (by omega) _ _) rfl rfl (by decide) (Nat.le_of_ble_eq_true rfl) (by decide) dX3_fileRequest_33 rfl (fun I33 L33 H locs hq hP hS => ?_)
          obtain ⟨rfl, rfl⟩ := hq
          refine lv_iload hx hb dX3_fileRequest_36 (lv_at hl 4 rfl) ?_
          exact gT_iret C hr hP hS (by decide) (by decide) dX3_fileRequest_38 (by unfold pq_X3_fileRequest; rw [show gfq (fun k => I (8 + k) 0) = i from gfq_i i (by omega) hno h17_0]; exact ⟨by omega, rfl, rfl, rfl⟩)  -- end 0: n7 : ¬ 6 ≤ i ; h17_0 : (I (8 + i) 0) = (-1)
        · refine lv_if_ne (tgt := 39) hx hb dX3_fileRequest_20 (by decide) (fun c => ?_) (fun c => absurd c (by decide))
          refine lv_iinc (v := nI (i + 1)) (lv' := [(5, .int (nI (i + 1))), (0, .ref (ad 0)), (1, .int x1), (2, .int x2), (3, .long x3)]) hx hb dX3_fileRequest_39 hl (k := 4) rfl (nI_1 _) (by decide) rfl (fun ls hl => ?_)
          refine lv_goto (tgt := 3) hx hb dX3_fileRequest_42 (by decide) ?_
          exact ih (i + 1) (by omega) (lt_s hno h17_0) (by omega) _ _ _ hP hS (lv_sub hl [1, 2, 3, 4, 0] rfl)
  exact loop3 7 0 (Nat.zero_le _) (fun _ h => absurd h (Nat.not_lt_zero _)) (by omega) _ _ _ hP hS (lv_sub hl [1, 2, 3, 4, 0] rfl)
def pq_X3_negatePostings (I : MI) (L : ML) : MI → ML → Prop := fun I' L' => I = I' ∧ va_up L 7 (gng (L 7)) = L'
set_option maxRecDepth 100000 in
set_option maxHeartbeats 4000000 in
theorem ct_X3_negatePostings (l : Launch) (D : va_G) (cy : Nat → ClassId) (ad : Nat → Nat) (hJ : gJ ad) (I : MI) (L : ML) : gMv l D cy ad yX3_negatePostings cX3_negatePostings 2 (gR 5 0 0) [.ref (ad 0)] I L (pq_X3_negatePostings I L) := by
  refine gMv_of hJ (by decide +kernel) kc_X3_negatePostings (Nat.le_of_ble_eq_true rfl) (fun p e s m below meth c A ls C hr hP hS hl => ?_)
  have hx := C.hx
  have hb := C.hb
  have hl : lv_has ls 2 [(0, .ref (ad 0))] := hl
  refine lv_iconst (v := 0) hx hb dX3_negatePostings_0 (by decide) ?_
  refine lv_istore_n (lv' := [(1, .int 0), (0, .ref (ad 0))]) hx hb dX3_negatePostings_1 rfl hl (by decide) rfl (fun ls hl => ?_)
  have loop2 : ∀ (N : Nat) (i : Nat) (L1 : ML) (hi : i ≤ 4) (hL0 : ∀ c, c ≠ 7 → L1 c = L c) (hL1 : ∀ k, k < i → L1 7 k = -(L 7 k)) (hL2 : ∀ k, i ≤ k → L1 7 k = L 7 k) (hfu : 4 < i + N) (H : Heap) (locs : List Loc) (ls : Array Slot), gP D cy ad I L1 H → va_S A s.heap H locs → lv_has ls 2 [(0, .ref (ad 0)), (1, .int (nI i))] → W p l e (gR 5 0 0) s m ([.ref (ad 0)] : List Value).toArray below meth c H locs 0 0 (MQ below (gQv D cy ad A (pq_X3_negatePostings I L)) ([.ref (ad 0)] : List Value).toArray s 0 0 A) (F0 m 2 ls []) := by
    intro N
    induction N with
    | zero =>
      intro i L1 hi hL0 hL1 hL2 hfu
      exact absurd hfu (by omega)
    | succ N ih =>
      intro i L1 hi hL0 hL1 hL2 hfu H locs ls hP hS hl
      refine lv_iload_n hx hb dX3_negatePostings_2 rfl (lv_at hl 1 rfl) ?_
      refine lv_iconst (v := 4) hx hb dX3_negatePostings_3 (by decide) ?_
      refine lv_icmp_ge (tgt := 26) hx hb dX3_negatePostings_4 (by decide) (fun c4 => ?_) (fun c4 => ?_)
      · have n4 : 4 ≤ i := (nI_leeE (show (4 : Int32) = nI 4 from rfl) rfl (by omega) (by omega)).mp c4
        exact gM_vret C hr hP hS (by decide) (by decide) dX3_negatePostings_26 (⟨rfl, gng_end hL0 hi (by omega) hL1 hL2⟩)  -- end 0: n4 : 4 ≤ i
      · have n4 : ¬ 4 ≤ i := (not_congr (nI_leeE (show (4 : Int32) = nI 4 from rfl) rfl (by omega) (by omega))).mp c4
        refine lv_aload_n hx hb dX3_negatePostings_7 rfl (lv_at hl 0 rfl) ?_
        refine g_get (v := .ref (ad 7)) (T := TX3) C hP 0 8 (by decide) rfl rfl inwX3 (by decide) kf_X3_46 rfl dX3_negatePostings_8 ?_
        refine lv_iload_n hx hb dX3_negatePostings_11 rfl (lv_at hl 1 rfl) ?_
        refine lv_aload_n hx hb dX3_negatePostings_12 rfl (lv_at hl 0 rfl) ?_
        refine g_get (v := .ref (ad 7)) (T := TX3) C hP 0 8 (by decide) rfl rfl inwX3 (by decide) kf_X3_46 rfl dX3_negatePostings_13 ?_
        refine lv_iload_n hx hb dX3_negatePostings_16 rfl (lv_at hl 1 rfl) ?_
        refine g_lald (v := L1 7 i) C hP 7 4 (by decide) (fun _ _ => rfl) i rfl rfl (by omega) (by decide) dX3_negatePostings_17 ?_
        refine lv_lneg hx hb dX3_negatePostings_18 ?_
        refine g_last C hP hS 7 4 (by decide) (fun _ _ => rfl) i rfl (by omega) (by decide) dX3_negatePostings_19 (fun H locs hP hS => ?_)
        refine lv_iinc (v := nI (i + 1)) (lv' := [(1, .int (nI (i + 1))), (0, .ref (ad 0))]) hx hb dX3_negatePostings_20 hl (k := 1) rfl (nI_1 _) (by decide) rfl (fun ls hl => ?_)
        refine lv_goto (tgt := 2) hx hb dX3_negatePostings_23 (by decide) ?_
        exact ih (i + 1) _ (by omega) (fun c hc => (sL_row hc).trans (hL0 c hc)) (gng_step hL1 hL2) (fun k hk => by rw [sL_at, if_neg (fun z => by omega)]; exact hL2 k (by omega)) (by omega) _ _ _ hP hS (lv_sub hl [1, 0] rfl)
  exact loop2 5 0 L (Nat.zero_le _) (fun _ _ => rfl) (fun _ h => absurd h (Nat.not_lt_zero _)) (fun _ _ => rfl) (by omega) _ _ _ hP hS (lv_sub hl [1, 0] rfl)
def pq_X3_requireNoLineFails (pp : Nat) (nn : Nat) (I : MI) (L : ML) : MI → ML → Prop := fun I' L' => (∀ k, k < nn → ¬ gfl (I (96 + 4 * pp)) (L 1) (L 2) (L 7) k) ∧ I = I' ∧ L = L'
def px_X3_requireNoLineFails (pp : Nat) (nn : Nat) (I : MI) (L : ML) : String → MI → ML → Prop := fun E I' L' => ((¬ (∀ k, k < nn → ¬ gfl (I (96 + 4 * pp)) (L 1) (L 2) (L 7) k)) ∧ xIS = E ∧ I = I' ∧ L = L')
set_option maxRecDepth 100000 in
set_option maxHeartbeats 4000000 in
theorem ct_X3_requireNoLineFails (l : Launch) (D : va_G) (cy : Nat → ClassId) (ad : Nat → Nat) (hJ : gJ ad) (hlf : l.stackTraces = false) (pp : Nat) (nn : Nat) (I : MI) (L : ML) (hp : pp < 10) (hn : I (95 + 4 * pp) 2 = nI nn) (hn4 : nn ≤ 4) (hac : ∀ k, k < nn → vp_in (I (96 + 4 * pp) k) 8) : gTv l D cy ad yX3_requireNoLineFails cX3_requireNoLineFails 8 (gR 4 1 6) [.ref (ad 0), .ref (ad (95 + 4 * pp))] I L (pq_X3_requireNoLineFails pp nn I L) (px_X3_requireNoLineFails pp nn I L) := by
  refine gTv_of hJ (by decide +kernel) kc_X3_requireNoLineFails (Nat.le_of_ble_eq_true rfl) (fun p e s m below meth c A ls C hr ht hP hS hl => ?_)
  have hx := C.hx
  have hb := C.hb
  have hl : lv_has ls 8 [(0, .ref (ad 0)), (1, .ref (ad (95 + 4 * pp)))] := hl
  refine lv_iconst (v := 0) hx hb dX3_requireNoLineFails_0 (by decide) ?_
  refine lv_istore_n (lv' := [(2, .int 0), (0, .ref (ad 0)), (1, .ref (ad (95 + 4 * pp)))]) hx hb dX3_requireNoLineFails_1 rfl hl (by decide) rfl (fun ls hl => ?_)
  have loop2 : ∀ (N : Nat) (i : Nat) (hi : i ≤ nn) (hno : ∀ k, k < i → ¬ gfl (I (96 + 4 * pp)) (L 1) (L 2) (L 7) k) (hfu : nn < i + N) (H : Heap) (locs : List Loc) (ls : Array Slot), gP D cy ad I L H → va_S A s.heap H locs → lv_has ls 8 [(0, .ref (ad 0)), (1, .ref (ad (95 + 4 * pp))), (2, .int (nI i))] → W p l e (gR 4 1 6) s m ([.ref (ad 0), .ref (ad (95 + 4 * pp))] : List Value).toArray below meth c H locs 0 0 (vx_MQ below (gQv D cy ad A (pq_X3_requireNoLineFails pp nn I L)) (gXC D cy ad A (px_X3_requireNoLineFails pp nn I L)) ([.ref (ad 0), .ref (ad (95 + 4 * pp))] : List Value).toArray s 1 6 A) (F0 m 2 ls []) := by
    intro N
    induction N with
    | zero =>
      intro i hi hno hfu
      exact absurd hfu (by omega)
    | succ N ih =>
      intro i hi hno hfu H locs ls hP hS hl
      refine lv_iload_n hx hb dX3_requireNoLineFails_2 rfl (lv_at hl 2 rfl) ?_
      refine lv_aload_n hx hb dX3_requireNoLineFails_3 rfl (lv_at hl 1 rfl) ?_
      refine g_getN (v := .int (nI nn)) (T := TX1) C hP (95 + 4 * pp) 2 (by omega) (kd_P hp _ _) rfl inwX1 (by decide) kn_f88 (congrArg (fun z => some (Value.int z)) hn) dX3_requireNoLineFails_4 ?_
      refine lv_icmp_ge (tgt := 81) hx hb dX3_requireNoLineFails_7 (by decide) (fun c7 => ?_) (fun c7 => ?_)
      · have n7 : nn ≤ i := (nI_leeE rfl rfl (by omega) (by omega)).mp c7
        exact gT_vret C hr hP hS (by decide) (by decide) dX3_requireNoLineFails_81 (⟨fun k hk => hno k (by omega), rfl, rfl⟩)  -- end 0: n7 : nn ≤ i
      · have n7 : ¬ nn ≤ i := (not_congr (nI_leeE rfl rfl (by omega) (by omega))).mp c7
        refine lv_aload_n hx hb dX3_requireNoLineFails_10 rfl (lv_at hl 1 rfl) ?_
        refine g_getN (v := .ref (ad (96 + 4 * pp))) (T := TX1) C hP (95 + 4 * pp) 0 (by omega) (kd_P hp _ _) rfl inwX1 (by decide) kn_f242 rfl dX3_requireNoLineFails_11 ?_
        refine lv_iload_n hx hb dX3_requireNoLineFails_14 rfl (lv_at hl 2 rfl) ?_
        refine g_iald (v := I (96 + 4 * pp) i) C hP (96 + 4 * pp) 4 (by omega) (kd_PA hp) i rfl rfl (by omega) (by decide) dX3_requireNoLineFails_15 ?_
        obtain ⟨e16, l16⟩ := vp_ix (hac i (by omega))
        refine lv_istore_n (lv' := [(3, .int (I (96 + 4 * pp) i)), (0, .ref (ad 0)), (1, .ref (ad (95 + 4 * pp))), (2, .int (nI i))]) hx hb dX3_requireNoLineFails_16 rfl hl (by decide) rfl (fun ls hl => ?_)
        refine lv_aload_n hx hb dX3_requireNoLineFails_17 rfl (lv_at hl 1 rfl) ?_
        refine g_get (v := .ref (ad 1)) (T := TX3) C hP 0 0 (by decide) rfl rfl inwX3 (by decide) kf_X3_9 rfl dX3_requireNoLineFails_18 ?_
        refine lv_iload_n hx hb dX3_requireNoLineFails_21 rfl (lv_at hl 0 rfl) ?_
        refine g_lald (v := L 1 ((I (96 + 4 * pp) i).toNatClampNeg)) C hP 1 8 (by decide) (fun _ _ => rfl) ((I (96 + 4 * pp) i).toNatClampNeg) e16 rfl (by omega) (by decide) dX3_requireNoLineFails_22 ?_
        refine lv_lstore (lv' := [(4, .long (L 1 ((I (96 + 4 * pp) i).toNatClampNeg))), (3, .int (I (96 + 4 * pp) i)), (0, .ref (ad 0)), (1, .ref (ad (95 + 4 * pp))), (2, .int (nI i))]) hx hb dX3_requireNoLineFails_23 hl (by decide) rfl (fun ls hl => ?_)
        refine lv_lload hx hb dX3_requireNoLineFails_25 (lv_at hl 0 rfl) ?_
        refine lv_aload_n hx hb dX3_requireNoLineFails_27 rfl (lv_at hl 2 rfl) ?_
        refine g_get (v := .ref (ad 7)) (T := TX3) C hP 0 8 (by decide) rfl rfl inwX3 (by decide) kf_X3_46 rfl dX3_requireNoLineFails_28 ?_
        refine lv_iload_n hx hb dX3_requireNoLineFails_31 rfl (lv_at hl 4 rfl) ?_
        refine g_lald (v := L 7 i) C hP 7 4 (by decide) (fun _ _ => rfl) i rfl rfl (by omega) (by decide) dX3_requireNoLineFails_32 ?_
        refine lv_ladd hx hb dX3_requireNoLineFails_33 ?_
        refine lv_lstore (lv' := [(6, .long ((L 1 ((I (96 + 4 * pp) i).toNatClampNeg)) + (L 7 i))), (4, .long (L 1 ((I (96 + 4 * pp) i).toNatClampNeg))), (3, .int (I (96 + 4 * pp) i)), (0, .ref (ad 0)), (1, .ref (ad (95 + 4 * pp))), (2, .int (nI i))]) hx hb dX3_requireNoLineFails_34 hl (by decide) rfl (fun ls hl => ?_)
        refine lv_lload hx hb dX3_requireNoLineFails_36 (lv_at hl 0 rfl) ?_
        refine lv_ldc2 (v := 1000000000000) hx hb C.hown (C.hts _ kcn_X3_249) dX3_requireNoLineFails_38 ?_
        refine W.lcmp hx hb dX3_requireNoLineFails_41 ?_
        refine lv_if_gt (tgt := 65) hx hb dX3_requireNoLineFails_42 (by decide) (fun c42 => ?_) (fun c42 => ?_)
        · have n42 : 1000000000000 < ((L 1 ((I (96 + 4 * pp) i).toNatClampNeg)) + (L 7 i)) := (lg_cmp_gt _ _).mp c42
          exact g_throwS (cls := xIS) C hlf hP hS hl.1 (by decide) kcl_X3_61 kini_IllegalStateException ks_251 gat_65 gan_65 gao_65 dX3_requireNoLineFails_65 dX3_requireNoLineFails_68 dX3_requireNoLineFails_69 dX3_requireNoLineFails_71 dX3_requireNoLineFails_74 ht (by decide) (by decide) (by decide) (by decide) (by decide) ⟨fun z => z i (by omega) (Or.inl n42), rfl, rfl, rfl⟩
        · have n42 : ¬ 1000000000000 < ((L 1 ((I (96 + 4 * pp) i).toNatClampNeg)) + (L 7 i)) := (not_congr (lg_cmp_gt _ _)).mp c42
          refine lv_lload hx hb dX3_requireNoLineFails_45 (lv_at hl 0 rfl) ?_
          refine lv_aload_n hx hb dX3_requireNoLineFails_47 rfl (lv_at hl 3 rfl) ?_
          refine g_get (v := .ref (ad 2)) (T := TX3) C hP 0 1 (by decide) rfl rfl inwX3 (by decide) kf_X3_13 rfl dX3_requireNoLineFails_48 ?_
          refine lv_iload_n hx hb dX3_requireNoLineFails_51 rfl (lv_at hl 2 rfl) ?_
          refine g_lald (v := L 2 ((I (96 + 4 * pp) i).toNatClampNeg)) C hP 2 8 (by decide) (fun _ _ => rfl) ((I (96 + 4 * pp) i).toNatClampNeg) e16 rfl (by omega) (by decide) dX3_requireNoLineFails_52 ?_
          refine W.lcmp hx hb dX3_requireNoLineFails_53 ?_
          refine lv_if_ge (tgt := 75) hx hb dX3_requireNoLineFails_54 (by decide) (fun c54 => ?_) (fun c54 => ?_)
          · have n54 : (L 2 ((I (96 + 4 * pp) i).toNatClampNeg)) ≤ ((L 1 ((I (96 + 4 * pp) i).toNatClampNeg)) + (L 7 i)) := (lg_cmp_ge _ _).mp c54
            refine lv_iinc (v := nI (i + 1)) (lv' := [(2, .int (nI (i + 1))), (6, .long ((L 1 ((I (96 + 4 * pp) i).toNatClampNeg)) + (L 7 i))), (4, .long (L 1 ((I (96 + 4 * pp) i).toNatClampNeg))), (3, .int (I (96 + 4 * pp) i)), (0, .ref (ad 0)), (1, .ref (ad (95 + 4 * pp)))]) hx hb dX3_requireNoLineFails_75 hl (k := 5) rfl (nI_1 _) (by decide) rfl (fun ls hl => ?_)
            refine lv_goto (tgt := 2) hx hb dX3_requireNoLineFails_78 (by decide) ?_
            have n54n := Int64.not_lt.mpr n54
            exact ih (i + 1) (by omega) (lt_s hno (fun z => z.elim (fun z => n42 z) (fun z => n54n z.1))) (by omega) _ _ _ hP hS (lv_sub hl [4, 5, 0] rfl)
          · have n54 : ¬ (L 2 ((I (96 + 4 * pp) i).toNatClampNeg)) ≤ ((L 1 ((I (96 + 4 * pp) i).toNatClampNeg)) + (L 7 i)) := (not_congr (lg_cmp_ge _ _)).mp c54
            refine lv_lload hx hb dX3_requireNoLineFails_57 (lv_at hl 0 rfl) ?_
            refine lv_lload hx hb dX3_requireNoLineFails_59 (lv_at hl 1 rfl) ?_
            refine W.lcmp hx hb dX3_requireNoLineFails_61 ?_
            refine lv_if_ge (tgt := 75) hx hb dX3_requireNoLineFails_62 (by decide) (fun c62 => ?_) (fun c62 => ?_)
            · have n62 : (L 1 ((I (96 + 4 * pp) i).toNatClampNeg)) ≤ ((L 1 ((I (96 + 4 * pp) i).toNatClampNeg)) + (L 7 i)) := (lg_cmp_ge _ _).mp c62
              refine lv_iinc (v := nI (i + 1)) (lv' := [(2, .int (nI (i + 1))), (6, .long ((L 1 ((I (96 + 4 * pp) i).toNatClampNeg)) + (L 7 i))), (4, .long (L 1 ((I (96 + 4 * pp) i).toNatClampNeg))), (3, .int (I (96 + 4 * pp) i)), (0, .ref (ad 0)), (1, .ref (ad (95 + 4 * pp)))]) hx hb dX3_requireNoLineFails_75 hl (k := 5) rfl (nI_1 _) (by decide) rfl (fun ls hl => ?_)
              refine lv_goto (tgt := 2) hx hb dX3_requireNoLineFails_78 (by decide) ?_
              have n62n := Int64.not_lt.mpr n62
              exact ih (i + 1) (by omega) (lt_s hno (fun z => z.elim (fun z => n42 z) (fun z => n62n z.2))) (by omega) _ _ _ hP hS (lv_sub hl [4, 5, 0] rfl)
            · have n62 : ¬ (L 1 ((I (96 + 4 * pp) i).toNatClampNeg)) ≤ ((L 1 ((I (96 + 4 * pp) i).toNatClampNeg)) + (L 7 i)) := (not_congr (lg_cmp_ge _ _)).mp c62
              exact g_throwS (cls := xIS) C hlf hP hS hl.1 (by decide) kcl_X3_61 kini_IllegalStateException ks_251 gat_65 gan_65 gao_65 dX3_requireNoLineFails_65 dX3_requireNoLineFails_68 dX3_requireNoLineFails_69 dX3_requireNoLineFails_71 dX3_requireNoLineFails_74 ht (by decide) (by decide) (by decide) (by decide) (by decide) ⟨fun z => z i (by omega) (Or.inr ⟨Int64.not_le.mp n54, Int64.not_le.mp n62⟩), rfl, rfl, rfl⟩
  exact loop2 (nn + 1) 0 (Nat.zero_le _) (fun _ h => absurd h (Nat.not_lt_zero _)) (by omega) _ _ _ hP hS (lv_sub hl [1, 2, 0] rfl)
def pq_X3_countUnsoundBalances (ne : Nat) (I : MI) (L : ML) : Int32 → MI → ML → Prop := fun r I' L' => nI (gcn (L 1) (L (54 + ne)) 8) = r ∧ I = I' ∧ L = L'
set_option maxRecDepth 100000 in
set_option maxHeartbeats 4000000 in
theorem ct_X3_countUnsoundBalances (l : Launch) (D : va_G) (cy : Nat → ClassId) (ad : Nat → Nat) (hJ : gJ ad) (ne : Nat) (I : MI) (L : ML) (hne : I 0 6 = nI ne) (hne40 : ne ≤ 40) : gMi l D cy ad yX3_countUnsoundBalances cX3_countUnsoundBalances 3 .int (gR 4 0 0) [.ref (ad 0)] I L (pq_X3_countUnsoundBalances ne I L) := by
  refine gMi_of hJ (by decide +kernel) kc_X3_countUnsoundBalances (Nat.le_of_ble_eq_true rfl) (fun p e s m below meth c A ls C hr hP hS hl => ?_)
  have hx := C.hx
  have hb := C.hb
  have hl : lv_has ls 3 [(0, .ref (ad 0))] := hl
  refine lv_iconst (v := 0) hx hb dX3_countUnsoundBalances_0 (by decide) ?_
  refine lv_istore_n (lv' := [(1, .int 0), (0, .ref (ad 0))]) hx hb dX3_countUnsoundBalances_1 rfl hl (by decide) rfl (fun ls hl => ?_)
  refine lv_iconst (v := 0) hx hb dX3_countUnsoundBalances_2 (by decide) ?_
  refine lv_istore_n (lv' := [(2, .int 0), (1, .int 0), (0, .ref (ad 0))]) hx hb dX3_countUnsoundBalances_3 rfl hl (by decide) rfl (fun ls hl => ?_)
  have loop4 : ∀ (N : Nat) (i : Nat) (hi : i ≤ 8) (hfu : 8 < i + N) (H : Heap) (locs : List Loc) (ls : Array Slot), gP D cy ad I L H → va_S A s.heap H locs → lv_has ls 3 [(0, .ref (ad 0)), (1, .int (nI (gcn (L 1) (L (54 + ne)) i))), (2, .int (nI i))] → W p l e (gR 4 0 0) s m ([.ref (ad 0)] : List Value).toArray below meth c H locs 0 0 (MQ below (gQi D cy ad A (pq_X3_countUnsoundBalances ne I L)) ([.ref (ad 0)] : List Value).toArray s 0 0 A) (F0 m 4 ls []) := by
    intro N
    induction N with
    | zero =>
      intro i hi hfu
      exact absurd hfu (by omega)
    | succ N ih =>
      intro i hi hfu H locs ls hP hS hl
      refine lv_iload_n hx hb dX3_countUnsoundBalances_4 rfl (lv_at hl 2 rfl) ?_
      refine lv_bipush (v := 8) hx hb dX3_countUnsoundBalances_5 (by decide) ?_
      refine lv_icmp_ge (tgt := 40) hx hb dX3_countUnsoundBalances_7 (by decide) (fun c7 => ?_) (fun c7 => ?_)
      · have n7 : 8 ≤ i := (nI_leeE (show (8 : Int32) = nI 8 from rfl) rfl (by omega) (by omega)).mp c7
        refine lv_iload_n hx hb dX3_countUnsoundBalances_40 rfl (lv_at hl 1 rfl) ?_
        exact gM_iret C hr hP hS (by decide) (by decide) dX3_countUnsoundBalances_41 (⟨by rw [show i = 8 by omega], rfl, rfl⟩)  -- end 0: n7 : 8 ≤ i
      · have n7 : ¬ 8 ≤ i := (not_congr (nI_leeE (show (8 : Int32) = nI 8 from rfl) rfl (by omega) (by omega))).mp c7
        refine lv_aload_n hx hb dX3_countUnsoundBalances_10 rfl (lv_at hl 0 rfl) ?_
        refine g_get (v := .ref (ad 1)) (T := TX3) C hP 0 0 (by decide) rfl rfl inwX3 (by decide) kf_X3_9 rfl dX3_countUnsoundBalances_11 ?_
        refine lv_iload_n hx hb dX3_countUnsoundBalances_14 rfl (lv_at hl 2 rfl) ?_
        refine g_lald (v := L 1 i) C hP 1 8 (by decide) (fun _ _ => rfl) i rfl rfl (by omega) (by decide) dX3_countUnsoundBalances_15 ?_
        refine lv_aload_n hx hb dX3_countUnsoundBalances_16 rfl (lv_at hl 0 rfl) ?_
        refine g_get (v := .ref (ad 6)) (T := TX3) C hP 0 7 (by decide) rfl rfl inwX3 (by decide) kf_X3_43 rfl dX3_countUnsoundBalances_17 ?_
        refine lv_aload_n hx hb dX3_countUnsoundBalances_20 rfl (lv_at hl 0 rfl) ?_
        refine g_get (v := .int (nI ne)) (T := TX3) C hP 0 6 (by decide) rfl rfl inwX3 (by decide) kf_X3_38 (congrArg (fun z => some (Value.int z)) hne) dX3_countUnsoundBalances_21 ?_
        refine g_aldT C hP ne rfl (by omega) dX3_countUnsoundBalances_24 ?_
        refine lv_iload_n hx hb dX3_countUnsoundBalances_25 rfl (lv_at hl 2 rfl) ?_
        refine g_lald (v := L (54 + ne) i) C hP (54 + ne) 8 (by omega) (kd_T (by omega)) i rfl rfl (by omega) (by decide) dX3_countUnsoundBalances_26 ?_
        refine W.lcmp hx hb dX3_countUnsoundBalances_27 ?_
        refine lv_if_eq (tgt := 34) hx hb dX3_countUnsoundBalances_28 (by decide) (fun c28 => ?_) (fun c28 => ?_)
        · have n28 : (L 1 i) = (L (54 + ne) i) := (lg_cmp_eq _ _).mp c28
          refine lv_iinc (v := nI (i + 1)) (lv' := [(2, .int (nI (i + 1))), (0, .ref (ad 0)), (1, .int (nI (gcn (L 1) (L (54 + ne)) i)))]) hx hb dX3_countUnsoundBalances_34 hl (k := 2) rfl (nI_1 _) (by decide) rfl (fun ls hl => ?_)
          refine lv_goto (tgt := 4) hx hb dX3_countUnsoundBalances_37 (by decide) ?_
          have e9 : gcn (L 1) (L (54 + ne)) (i + 1) = gcn (L 1) (L (54 + ne)) i := by simp only [gcn, if_pos n28, Nat.add_zero]
          rw [← e9] at hl
          exact ih (i + 1) (by omega) (by omega) _ _ _ hP hS (lv_sub hl [1, 2, 0] rfl)
        · have n28 : ¬ (L 1 i) = (L (54 + ne) i) := (not_congr (lg_cmp_eq _ _)).mp c28
          refine lv_iinc (v := nI (gcn (L 1) (L (54 + ne)) i + 1)) (lv' := [(1, .int (nI (gcn (L 1) (L (54 + ne)) i + 1))), (0, .ref (ad 0)), (2, .int (nI i))]) hx hb dX3_countUnsoundBalances_31 hl (k := 1) rfl (nI_1 _) (by decide) rfl (fun ls hl => ?_)
          refine lv_iinc (v := nI (i + 1)) (lv' := [(2, .int (nI (i + 1))), (1, .int (nI (gcn (L 1) (L (54 + ne)) i + 1))), (0, .ref (ad 0))]) hx hb dX3_countUnsoundBalances_34 hl (k := 2) rfl (nI_1 _) (by decide) rfl (fun ls hl => ?_)
          refine lv_goto (tgt := 4) hx hb dX3_countUnsoundBalances_37 (by decide) ?_
          have e9 : gcn (L 1) (L (54 + ne)) (i + 1) = gcn (L 1) (L (54 + ne)) i + 1 := by simp only [gcn, if_neg n28]
          rw [← e9] at hl
          exact ih (i + 1) (by omega) (by omega) _ _ _ hP hS (lv_sub hl [2, 1, 0] rfl)
  exact loop4 9 0 (Nat.zero_le _) (by omega) _ _ _ hP hS (lv_sub hl [2, 1, 0] rfl)
def pq_X3_requireBooksTakeRun (ne : Nat) (I : MI) (L : ML) : MI → ML → Prop := fun I' L' => ((gcn (L 1) (L (54 + ne)) 8) = 0 ∧ ne < 40 ∧ I = I' ∧ L = L')
def px_X3_requireBooksTakeRun (ne : Nat) (I : MI) (L : ML) : String → MI → ML → Prop := fun E I' L' => ((gcn (L 1) (L (54 + ne)) 8) = 0 ∧ ¬ ne < 40 ∧ xIS = E ∧ I = I' ∧ L = L') ∨ (¬ (gcn (L 1) (L (54 + ne)) 8) = 0 ∧ xIS = E ∧ I = I' ∧ L = L')
set_option maxRecDepth 100000 in
set_option maxHeartbeats 4000000 in
theorem ct_X3_requireBooksTakeRun (l : Launch) (D : va_G) (cy : Nat → ClassId) (ad : Nat → Nat) (hJ : gJ ad) (hlf : l.stackTraces = false) (ne : Nat) (I : MI) (L : ML) (hne : I 0 6 = nI ne) (hne40 : ne ≤ 40) : gTv l D cy ad yX3_requireBooksTakeRun cX3_requireBooksTakeRun 1 (gR 3 1 6) [.ref (ad 0)] I L (pq_X3_requireBooksTakeRun ne I L) (px_X3_requireBooksTakeRun ne I L) := by
  refine gTv_of hJ (by decide +kernel) kc_X3_requireBooksTakeRun (Nat.le_of_ble_eq_true rfl) (fun p e s m below meth c A ls C hr ht hP hS hl => ?_)
  have hx := C.hx
  have hb := C.hb
  have hl : lv_has ls 1 [(0, .ref (ad 0))] := hl
  refine lv_aload_n hx hb dX3_requireBooksTakeRun_0 rfl (lv_at hl 0 rfl) ?_
  refine gM_callVi (As := []) (rest := []) C hP hS hl.1 (ct_X3_countUnsoundBalances l D cy ad hJ ne I L hne hne40) fa_X3_countUnsoundBalances kl_X3_191 ki_X3_countUnsoundBalances kse_X3_countUnsoundBalances (by decide) (T := TX3) rfl rfl rfl (by decide) (Nat.le_of_ble_eq_true rfl) (by decide) dX3_requireBooksTakeRun_1 rfl (fun r1 I1 L1 H locs hq hP hS => ?_)
  obtain ⟨rfl, rfl, rfl⟩ := hq
  have hg8 := gcn_le (L 1) (L (54 + ne)) 8
  refine lv_if_eq (tgt := 17) hx hb dX3_requireBooksTakeRun_4 (by decide) (fun c4 => ?_) (fun c4 => ?_)
  · have n4 : (gcn (L 1) (L (54 + ne)) 8) = 0 := (nI_eqqE rfl (show (0 : Int32) = nI 0 from rfl) (by omega) (by omega)).mp c4
    refine lv_aload_n hx hb dX3_requireBooksTakeRun_17 rfl (lv_at hl 0 rfl) ?_
    refine g_get (v := .int (nI ne)) (T := TX3) C hP 0 6 (by decide) rfl rfl inwX3 (by decide) kf_X3_38 (congrArg (fun z => some (Value.int z)) hne) dX3_requireBooksTakeRun_18 ?_
    refine lv_bipush (v := 40) hx hb dX3_requireBooksTakeRun_21 (by decide) ?_
    refine lv_icmp_lt (tgt := 36) hx hb dX3_requireBooksTakeRun_23 (by decide) (fun c23 => ?_) (fun c23 => ?_)
    · have n23 : ne < 40 := (nI_lttE rfl (show (40 : Int32) = nI 40 from rfl) (by omega) (by omega)).mp c23
      exact gT_vret C hr hP hS (by decide) (by decide) dX3_requireBooksTakeRun_36 (⟨n4, n23, rfl, rfl⟩)
    · have n23 : ¬ ne < 40 := (not_congr (nI_lttE rfl (show (40 : Int32) = nI 40 from rfl) (by omega) (by omega))).mp c23
      exact g_throwS (cls := xIS) C hlf hP hS hl.1 (by decide) kcl_X3_61 kini_IllegalStateException ks_255 gat_65 gan_65 gao_65 dX3_requireBooksTakeRun_26 dX3_requireBooksTakeRun_29 dX3_requireBooksTakeRun_30 dX3_requireBooksTakeRun_32 dX3_requireBooksTakeRun_35 ht (by decide) (by decide) (by decide) (by decide) (by decide) (Or.inl (⟨n4, n23, rfl, rfl, rfl⟩))
  · have n4 : ¬ (gcn (L 1) (L (54 + ne)) 8) = 0 := (not_congr (nI_eqqE rfl (show (0 : Int32) = nI 0 from rfl) (by omega) (by omega))).mp c4
    exact g_throwS (cls := xIS) C hlf hP hS hl.1 (by decide) kcl_X3_61 kini_IllegalStateException ks_253 gat_65 gan_65 gao_65 dX3_requireBooksTakeRun_7 dX3_requireBooksTakeRun_10 dX3_requireBooksTakeRun_11 dX3_requireBooksTakeRun_13 dX3_requireBooksTakeRun_16 ht (by decide) (by decide) (by decide) (by decide) (by decide) (Or.inr (⟨n4, rfl, rfl, rfl⟩))
