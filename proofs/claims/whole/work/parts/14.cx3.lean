def pq_X3_runAndLog (pp : Nat) (nn : Nat) (ne : Nat) (x1 : Int32) (x2 : Int64) (x4 : Int32) (x5 : Int32) (x6 : Int32) (I : MI) (L : ML) : Int32 → MI → ML → Prop := fun r I' L' => (∀ k, k < nn → ¬ gfl (I (96 + 4 * pp)) ((gPW L x2 (I (97 + 4 * pp)) nn x6) 1) ((gPW L x2 (I (97 + 4 * pp)) nn x6) 2) ((gPW L x2 (I (97 + 4 * pp)) nn x6) 7) k) ∧ nI ne = r ∧ sI (sI (sI (sI (sI I (14 + ne) 0 x1) (14 + ne) 2 x4) (14 + ne) 3 x5) (14 + ne) 4 x6) 0 6 (nI ne + 1) = I' ∧ sL (gRL (gcp (gPW L x2 (I (97 + 4 * pp)) nn x6) ne) (I (96 + 4 * pp)) (54 + (ne + 1)) nn) (14 + ne) 1 x2 = L'
def px_X3_runAndLog (pp : Nat) (nn : Nat) (ne : Nat) (x1 : Int32) (x2 : Int64) (x4 : Int32) (x5 : Int32) (x6 : Int32) (I : MI) (L : ML) : String → MI → ML → Prop := fun E I' L' => ((¬ (∀ k, k < nn → ¬ gfl (I (96 + 4 * pp)) ((gPW L x2 (I (97 + 4 * pp)) nn x6) 1) ((gPW L x2 (I (97 + 4 * pp)) nn x6) 2) ((gPW L x2 (I (97 + 4 * pp)) nn x6) 7) k)) ∧ xIS = E ∧ I = I' ∧ (gPW L x2 (I (97 + 4 * pp)) nn x6) = L')
set_option maxRecDepth 100000 in
set_option maxHeartbeats 4000000 in
theorem ct_X3_runAndLog (l : Launch) (D : va_G) (cy : Nat → ClassId) (ad : Nat → Nat) (hJ : gJ ad) (hlf : l.stackTraces = false) (pp : Nat) (nn : Nat) (ne : Nat) (x1 : Int32) (x2 : Int64) (x4 : Int32) (x5 : Int32) (x6 : Int32) (I : MI) (L : ML) (hx1 : x1 = nI pp) (hp : pp < 10) (hn : I (95 + 4 * pp) 2 = nI nn) (hn1 : 1 ≤ nn) (hn4 : nn ≤ 4) (hac : ∀ k, k < nn → vp_in (I (96 + 4 * pp) k) 8) (hne : I 0 6 = nI ne) (hne40 : ne < 40) : gTi l D cy ad yX3_runAndLog cX3_runAndLog 11 .int (gR 3 1 6) [.ref (ad 0), .int x1, .long x2, .int x4, .int x5, .int x6] I L (pq_X3_runAndLog pp nn ne x1 x2 x4 x5 x6 I L) (px_X3_runAndLog pp nn ne x1 x2 x4 x5 x6 I L) := by
  refine gTi_of hJ (by decide +kernel) kc_X3_runAndLog (Nat.le_of_ble_eq_true rfl) (fun p e s m below meth c A ls C hr ht hP hS hl => ?_)
  have hx := C.hx
  have hb := C.hb
  have hl : lv_has ls 11 [(0, .ref (ad 0)), (1, .int x1), (2, .long x2), (4, .int x4), (5, .int x5), (6, .int x6)] := hl
  refine lv_aload_n hx hb dX3_runAndLog_0 rfl (lv_at hl 0 rfl) ?_
  refine g_get (v := .ref (ad 3)) (T := TX3) C hP 0 2 (by decide) rfl rfl inwX3 (by decide) kf_X3_18 rfl dX3_runAndLog_1 ?_
  refine lv_iload_n hx hb dX3_runAndLog_4 rfl (lv_at hl 1 rfl) ?_
  refine g_aldP C hP pp hx1 (by omega) dX3_runAndLog_5 ?_
  refine lv_astore (lv' := [(7, .ref (ad (95 + 4 * pp))), (0, .ref (ad 0)), (1, .int x1), (2, .long x2), (4, .int x4), (5, .int x5), (6, .int x6)]) hx hb dX3_runAndLog_6 hl (by decide) rfl (fun ls hl => ?_)
  refine lv_aload hx hb dX3_runAndLog_8 (lv_at hl 0 rfl) ?_
  refine lv_lload_n hx hb dX3_runAndLog_10 rfl (lv_at hl 3 rfl) ?_
  refine lv_aload_n hx hb dX3_runAndLog_11 rfl (lv_at hl 1 rfl) ?_
  refine g_get (v := .ref (ad 7)) (T := TX3) C hP 0 8 (by decide) rfl rfl inwX3 (by decide) kf_X3_46 rfl dX3_runAndLog_12 ?_
  refine gM_callVNv (As := [.long x2, .ref (ad 7)]) (rest := []) C hP hS hl.1 (ct_X1_computePostings l D cy ad hJ pp nn x2 I L hp hn hn1 hn4) fa_X1_computePostings kn_m225 ki_X1_computePostings kse_X1_computePostings (by omega) (T := TX1) (kd_P hp _ _) rfl rfl (by decide) (Nat.le_of_ble_eq_true rfl) (by decide) dX3_runAndLog_15 rfl (fun I15 L15 H locs hq hP hS => ?_)
  obtain ⟨rfl, rfl⟩ := hq
  refine lv_iload hx hb dX3_runAndLog_18 (lv_at hl 6 rfl) ?_
  refine lv_iconst (v := (-1)) hx hb dX3_runAndLog_20 (by decide) ?_
  refine lv_icmp_eq (tgt := 28) hx hb dX3_runAndLog_21 (by decide) (fun c21 => ?_) (fun c21 => ?_)
  · rw [gPW_p (x := x6) c21] at hP
    refine lv_aload_n hx hb dX3_runAndLog_28 rfl (lv_at hl 1 rfl) ?_
    refine lv_aload hx hb dX3_runAndLog_29 (lv_at hl 0 rfl) ?_
    refine gT_callVv (As := [.ref (ad (95 + 4 * pp))]) (rest := []) C hP hS hl.1 (ct_X3_requireNoLineFails l D cy ad hJ hlf pp nn I (gPW L x2 (I (97 + 4 * pp)) nn x6) hp hn hn4 hac) fa_X3_requireNoLineFails kl_X3_232 ki_X3_requireNoLineFails kse_X3_requireNoLineFails (by decide) (T := TX3) rfl rfl rfl (by decide) (Nat.le_of_ble_eq_true rfl) (by decide) (ht) (by decide) (fun E9 I9 L9 hx9 => hx9) dX3_runAndLog_31 rfl (fun I31 L31 H locs hq hP hS => ?_)
    obtain ⟨h31_0, rfl, rfl⟩ := hq
    refine lv_aload_n hx hb dX3_runAndLog_34 rfl (lv_at hl 1 rfl) ?_
    refine g_get (v := .int (nI ne)) (T := TX3) C hP 0 6 (by decide) rfl rfl inwX3 (by decide) kf_X3_38 (congrArg (fun z => some (Value.int z)) hne) dX3_runAndLog_35 ?_
    refine lv_istore (lv' := [(8, .int (nI ne)), (7, .ref (ad (95 + 4 * pp))), (0, .ref (ad 0)), (1, .int x1), (2, .long x2), (4, .int x4), (5, .int x5), (6, .int x6)]) hx hb dX3_runAndLog_38 hl (by decide) rfl (fun ls hl => ?_)
    refine lv_aload_n hx hb dX3_runAndLog_40 rfl (lv_at hl 2 rfl) ?_
    refine g_get (v := .ref (ad 6)) (T := TX3) C hP 0 7 (by decide) rfl rfl inwX3 (by decide) kf_X3_43 rfl dX3_runAndLog_41 ?_
    refine lv_iload hx hb dX3_runAndLog_44 (lv_at hl 0 rfl) ?_
    refine g_aldT C hP ne rfl (by omega) dX3_runAndLog_46 ?_
    refine lv_iconst (v := 0) hx hb dX3_runAndLog_47 (by decide) ?_
    refine lv_aload_n hx hb dX3_runAndLog_48 rfl (lv_at hl 2 rfl) ?_
    refine g_get (v := .ref (ad 6)) (T := TX3) C hP 0 7 (by decide) rfl rfl inwX3 (by decide) kf_X3_43 rfl dX3_runAndLog_49 ?_
    refine lv_iload hx hb dX3_runAndLog_52 (lv_at hl 0 rfl) ?_
    refine lv_iconst (v := 1) hx hb dX3_runAndLog_54 (by decide) ?_
    refine lv_iadd hx hb dX3_runAndLog_55 ?_
    refine g_aldT C hP (ne + 1) (nI_addE rfl (show (1 : Int32) = nI 1 from rfl)) (by omega) dX3_runAndLog_56 ?_
    refine lv_iconst (v := 0) hx hb dX3_runAndLog_57 (by decide) ?_
    refine lv_bipush (v := 8) hx hb dX3_runAndLog_58 (by decide) ?_
    refine g_copyT C hP hS hl.1 ne (by omega) kl_X3_236 (by decide) (Nat.le_of_ble_eq_true rfl) dX3_runAndLog_60 (fun H locs hP hS => ?_)
    refine lv_iconst (v := 0) hx hb dX3_runAndLog_63 (by decide) ?_
    refine lv_istore (lv' := [(9, .int 0), (8, .int (nI ne)), (7, .ref (ad (95 + 4 * pp))), (0, .ref (ad 0)), (1, .int x1), (2, .long x2), (4, .int x4), (5, .int x5), (6, .int x6)]) hx hb dX3_runAndLog_64 hl (by decide) rfl (fun ls hl => ?_)
    have loop66 : ∀ (N : Nat) (i : Nat) (hi : i ≤ nn) (hfu : nn < i + N) (H : Heap) (locs : List Loc) (ls : Array Slot), gP D cy ad I (gRL (gcp (gPW L x2 (I (97 + 4 * pp)) nn x6) ne) (I (96 + 4 * pp)) (54 + (ne + 1)) i) H → va_S A s.heap H locs → lv_has ls 11 [(0, .ref (ad 0)), (1, .int x1), (2, .long x2), (4, .int x4), (5, .int x5), (6, .int x6), (7, .ref (ad (95 + 4 * pp))), (8, .int (nI ne)), (9, .int (nI i))] → W p l e (gR 3 1 6) s m ([.ref (ad 0), .int x1, .long x2, .int x4, .int x5, .int x6] : List Value).toArray below meth c H locs 1 6 (vx_MQ below (gQi D cy ad A (pq_X3_runAndLog pp nn ne x1 x2 x4 x5 x6 I L)) (gXC D cy ad A (px_X3_runAndLog pp nn ne x1 x2 x4 x5 x6 I L)) ([.ref (ad 0), .int x1, .long x2, .int x4, .int x5, .int x6] : List Value).toArray s 1 6 A) (F0 m 66 ls []) := by
      intro N
      induction N with
      | zero =>
        intro i hi hfu
        exact absurd hfu (by omega)
      | succ N ih =>
        intro i hi hfu H locs ls hP hS hl
        refine lv_iload hx hb dX3_runAndLog_66 (lv_at hl 8 rfl) ?_
        refine lv_aload hx hb dX3_runAndLog_68 (lv_at hl 6 rfl) ?_
        refine g_getN (v := .int (nI nn)) (T := TX1) C hP (95 + 4 * pp) 2 (by omega) (kd_P hp _ _) rfl inwX1 (by decide) kn_f88 (congrArg (fun z => some (Value.int z)) hn) dX3_runAndLog_70 ?_
        refine lv_icmp_ge (tgt := 131) hx hb dX3_runAndLog_73 (by decide) (fun c73 => ?_) (fun c73 => ?_)
        · have n73 : nn ≤ i := (nI_leeE rfl rfl (by omega) (by omega)).mp c73
          refine lv_aload_n hx hb dX3_runAndLog_131 rfl (lv_at hl 0 rfl) ?_
          refine g_get (v := .ref (ad 5)) (T := TX3) C hP 0 5 (by decide) rfl rfl inwX3 (by decide) kf_X3_34 rfl dX3_runAndLog_132 ?_
          refine lv_iload hx hb dX3_runAndLog_135 (lv_at hl 7 rfl) ?_
          refine g_aldE C hP ne rfl (by omega) dX3_runAndLog_137 ?_
          refine lv_iload_n hx hb dX3_runAndLog_138 rfl (lv_at hl 1 rfl) ?_
          refine lv_lload_n hx hb dX3_runAndLog_139 rfl (lv_at hl 2 rfl) ?_
          refine lv_iload hx hb dX3_runAndLog_140 (lv_at hl 3 rfl) ?_
          refine lv_iload hx hb dX3_runAndLog_142 (lv_at hl 4 rfl) ?_
          refine lv_iload hx hb dX3_runAndLog_144 (lv_at hl 5 rfl) ?_
          refine gM_callVNv (As := [.int x1, .long x2, .int x4, .int x5, .int x6]) (rest := []) C hP hS hl.1 (ct_X0_fill l D cy ad hJ ne x1 x2 x4 x5 x6 I (gRL (gcp (gPW L x2 (I (97 + 4 * pp)) nn x6) ne) (I (96 + 4 * pp)) (54 + (ne + 1)) i) (by omega)) fa_X0_fill kn_m246 ki_X0_fill kse_X0_fill (by omega) (T := TX0) (kd_E (by omega) _ _) rfl rfl (by decide) (Nat.le_of_ble_eq_true rfl) (by decide) dX3_runAndLog_146 rfl (fun I146 L146 H locs hq hP hS => ?_)
          obtain ⟨rfl, rfl⟩ := hq
          refine lv_aload_n hx hb dX3_runAndLog_149 rfl (lv_at hl 0 rfl) ?_
          refine lv_dup hx hb dX3_runAndLog_150 rfl ?_
          refine g_get (v := .int (nI ne)) (T := TX3) C hP 0 6 (by decide) rfl rfl inwX3 (by decide) kf_X3_38 (congrArg (fun z => some (Value.int z)) ((congrFun (sI_row (by omega)) _).trans ((congrFun (sI_row (by omega)) _).trans ((congrFun (sI_row (by omega)) _).trans ((congrFun (sI_row (by omega)) _).trans hne))))) dX3_runAndLog_151 ?_
          refine lv_iconst (v := 1) hx hb dX3_runAndLog_154 (by decide) ?_
          refine lv_iadd hx hb dX3_runAndLog_155 ?_
          refine g_putI (T := TX3) C hP hS 0 6 (by decide) rfl rfl inwX3 tyX3 tyX3_ok nmX3 (by decide) kf_X3_38 rfl rfl (by decide : 6 < 9) (by simp only [sI, va_up_self]; rfl) dX3_runAndLog_156 (fun H locs hP hS => ?_)
          refine lv_iload hx hb dX3_runAndLog_159 (lv_at hl 7 rfl) ?_
          exact gT_iret C hr hP hS (by decide) (by decide) dX3_runAndLog_161 (⟨h31_0, rfl, rfl, by rw [show nn = i by omega]⟩)  -- end 0: c21 : x6 = (-1) ; h31_0 : (∀ k, k < nn → ¬ gfl (I (96 + 4 * pp)) ((gPW L x2 (I (97 + 4 * pp)) nn x6) 1) ((gPW L x2 (I (97 + 4 * pp)) nn x6) 2) ((gPW L x2 (I (97 + 4 * pp)) nn x6) 7) k) ; n73 : nn ≤ i
        · have n73 : ¬ nn ≤ i := (not_congr (nI_leeE rfl rfl (by omega) (by omega))).mp c73
          refine lv_aload hx hb dX3_runAndLog_76 (lv_at hl 6 rfl) ?_
          refine g_getN (v := .ref (ad (96 + 4 * pp))) (T := TX1) C hP (95 + 4 * pp) 0 (by omega) (kd_P hp _ _) rfl inwX1 (by decide) kn_f242 rfl dX3_runAndLog_78 ?_
          refine lv_iload hx hb dX3_runAndLog_81 (lv_at hl 8 rfl) ?_
          refine g_iald (v := I (96 + 4 * pp) i) C hP (96 + 4 * pp) 4 (by omega) (kd_PA hp) i rfl rfl (by omega) (by decide) dX3_runAndLog_83 ?_
          obtain ⟨e84, l84⟩ := vp_ix (hac i (by omega))
          refine lv_istore (lv' := [(10, .int (I (96 + 4 * pp) i)), (0, .ref (ad 0)), (1, .int x1), (2, .long x2), (4, .int x4), (5, .int x5), (6, .int x6), (7, .ref (ad (95 + 4 * pp))), (8, .int (nI ne)), (9, .int (nI i))]) hx hb dX3_runAndLog_84 hl (by decide) rfl (fun ls hl => ?_)
          refine lv_aload_n hx hb dX3_runAndLog_86 rfl (lv_at hl 1 rfl) ?_
          refine g_get (v := .ref (ad 1)) (T := TX3) C hP 0 0 (by decide) rfl rfl inwX3 (by decide) kf_X3_9 rfl dX3_runAndLog_87 ?_
          refine lv_iload hx hb dX3_runAndLog_90 (lv_at hl 0 rfl) ?_
          refine lv_dup2_11 hx hb dX3_runAndLog_92 rfl rfl ?_
          refine g_lald (v := (gRL (gcp (gPW L x2 (I (97 + 4 * pp)) nn x6) ne) (I (96 + 4 * pp)) (54 + (ne + 1)) i) 1 ((I (96 + 4 * pp) i).toNatClampNeg)) C hP 1 8 (by decide) (fun _ _ => rfl) ((I (96 + 4 * pp) i).toNatClampNeg) e84 rfl (by omega) (by decide) dX3_runAndLog_93 ?_
          refine lv_aload_n hx hb dX3_runAndLog_94 rfl (lv_at hl 1 rfl) ?_
          refine g_get (v := .ref (ad 7)) (T := TX3) C hP 0 8 (by decide) rfl rfl inwX3 (by decide) kf_X3_46 rfl dX3_runAndLog_95 ?_
          refine lv_iload hx hb dX3_runAndLog_98 (lv_at hl 9 rfl) ?_
          refine g_lald (v := (gRL (gcp (gPW L x2 (I (97 + 4 * pp)) nn x6) ne) (I (96 + 4 * pp)) (54 + (ne + 1)) i) 7 i) C hP 7 4 (by decide) (fun _ _ => rfl) i rfl rfl (by omega) (by decide) dX3_runAndLog_100 ?_
          refine lv_ladd hx hb dX3_runAndLog_101 ?_
          refine g_last C hP hS 1 8 (by decide) (fun _ _ => rfl) ((I (96 + 4 * pp) i).toNatClampNeg) e84 (by omega) (by decide) dX3_runAndLog_102 (fun H locs hP hS => ?_)
          refine lv_aload_n hx hb dX3_runAndLog_103 rfl (lv_at hl 1 rfl) ?_
          refine g_get (v := .ref (ad 6)) (T := TX3) C hP 0 7 (by decide) rfl rfl inwX3 (by decide) kf_X3_43 rfl dX3_runAndLog_104 ?_
          refine lv_iload hx hb dX3_runAndLog_107 (lv_at hl 8 rfl) ?_
          refine lv_iconst (v := 1) hx hb dX3_runAndLog_109 (by decide) ?_
          refine lv_iadd hx hb dX3_runAndLog_110 ?_
          refine g_aldT C hP (ne + 1) (nI_addE rfl (show (1 : Int32) = nI 1 from rfl)) (by omega) dX3_runAndLog_111 ?_
          refine lv_iload hx hb dX3_runAndLog_112 (lv_at hl 0 rfl) ?_
          refine lv_dup2_11 hx hb dX3_runAndLog_114 rfl rfl ?_
          refine g_lald (v := (gRL (gcp (gPW L x2 (I (97 + 4 * pp)) nn x6) ne) (I (96 + 4 * pp)) (54 + (ne + 1)) i) (54 + (ne + 1)) ((I (96 + 4 * pp) i).toNatClampNeg)) C hP (54 + (ne + 1)) 8 (by omega) (kd_T (by omega)) ((I (96 + 4 * pp) i).toNatClampNeg) e84 (congrFun (sL_row (by omega)) _) (by omega) (by decide) dX3_runAndLog_115 ?_
          refine lv_aload_n hx hb dX3_runAndLog_116 rfl (lv_at hl 1 rfl) ?_
          refine g_get (v := .ref (ad 7)) (T := TX3) C hP 0 8 (by decide) rfl rfl inwX3 (by decide) kf_X3_46 rfl dX3_runAndLog_117 ?_
          refine lv_iload hx hb dX3_runAndLog_120 (lv_at hl 9 rfl) ?_
          refine g_lald (v := (gRL (gcp (gPW L x2 (I (97 + 4 * pp)) nn x6) ne) (I (96 + 4 * pp)) (54 + (ne + 1)) i) 7 i) C hP 7 4 (by decide) (fun _ _ => rfl) i rfl (congrFun (sL_row (by decide)) _) (by omega) (by decide) dX3_runAndLog_122 ?_
          refine lv_ladd hx hb dX3_runAndLog_123 ?_
          refine g_last C hP hS (54 + (ne + 1)) 8 (by omega) (kd_T (by omega)) ((I (96 + 4 * pp) i).toNatClampNeg) e84 (by omega) (by decide) dX3_runAndLog_124 (fun H locs hP hS => ?_)
          refine lv_iinc (v := nI (i + 1)) (lv' := [(9, .int (nI (i + 1))), (10, .int (I (96 + 4 * pp) i)), (0, .ref (ad 0)), (1, .int x1), (2, .long x2), (4, .int x4), (5, .int x5), (6, .int x6), (7, .ref (ad (95 + 4 * pp))), (8, .int (nI ne))]) hx hb dX3_runAndLog_125 hl (k := 9) rfl (nI_1 _) (by decide) rfl (fun ls hl => ?_)
          refine lv_goto (tgt := 66) hx hb dX3_runAndLog_128 (by decide) ?_
          rw [gRL_s _ _ _ _ _ (by omega) (by omega) rfl] at hP
          exact ih (i + 1) (by omega) (by omega) _ _ _ hP hS (lv_sub hl [2, 3, 4, 5, 6, 7, 8, 9, 0] rfl)
    exact loop66 (nn + 1) 0 (Nat.zero_le _) (by omega) _ _ _ (by rw [gRL_0]; exact hP) hS (lv_sub hl [3, 4, 5, 6, 7, 8, 2, 1, 0] rfl)
  · refine lv_aload_n hx hb dX3_runAndLog_24 rfl (lv_at hl 1 rfl) ?_
    refine gM_callVv (As := []) (rest := []) C hP hS hl.1 (ct_X3_negatePostings l D cy ad hJ I (va_up L 7 (gpw x2 (I (97 + 4 * pp)) nn (L 7)))) fa_X3_negatePostings kl_X3_229 ki_X3_negatePostings kse_X3_negatePostings (by decide) (T := TX3) rfl rfl rfl (by decide) (Nat.le_of_ble_eq_true rfl) (by decide) dX3_runAndLog_25 rfl (fun I25 L25 H locs hq hP hS => ?_)
    obtain ⟨rfl, rfl⟩ := hq
    rw [gPW_n (x := x6) c21] at hP
    refine lv_aload_n hx hb dX3_runAndLog_28 rfl (lv_at hl 1 rfl) ?_
    refine lv_aload hx hb dX3_runAndLog_29 (lv_at hl 0 rfl) ?_
    refine gT_callVv (As := [.ref (ad (95 + 4 * pp))]) (rest := []) C hP hS hl.1 (ct_X3_requireNoLineFails l D cy ad hJ hlf pp nn I (gPW L x2 (I (97 + 4 * pp)) nn x6) hp hn hn4 hac) fa_X3_requireNoLineFails kl_X3_232 ki_X3_requireNoLineFails kse_X3_requireNoLineFails (by decide) (T := TX3) rfl rfl rfl (by decide) (Nat.le_of_ble_eq_true rfl) (by decide) (ht) (by decide) (fun E9 I9 L9 hx9 => hx9) dX3_runAndLog_31 rfl (fun I31 L31 H locs hq hP hS => ?_)
    obtain ⟨h31_0, rfl, rfl⟩ := hq
    refine lv_aload_n hx hb dX3_runAndLog_34 rfl (lv_at hl 1 rfl) ?_
    refine g_get (v := .int (nI ne)) (T := TX3) C hP 0 6 (by decide) rfl rfl inwX3 (by decide) kf_X3_38 (congrArg (fun z => some (Value.int z)) hne) dX3_runAndLog_35 ?_
    refine lv_istore (lv' := [(8, .int (nI ne)), (7, .ref (ad (95 + 4 * pp))), (0, .ref (ad 0)), (1, .int x1), (2, .long x2), (4, .int x4), (5, .int x5), (6, .int x6)]) hx hb dX3_runAndLog_38 hl (by decide) rfl (fun ls hl => ?_)
    refine lv_aload_n hx hb dX3_runAndLog_40 rfl (lv_at hl 2 rfl) ?_
    refine g_get (v := .ref (ad 6)) (T := TX3) C hP 0 7 (by decide) rfl rfl inwX3 (by decide) kf_X3_43 rfl dX3_runAndLog_41 ?_
    refine lv_iload hx hb dX3_runAndLog_44 (lv_at hl 0 rfl) ?_
    refine g_aldT C hP ne rfl (by omega) dX3_runAndLog_46 ?_
    refine lv_iconst (v := 0) hx hb dX3_runAndLog_47 (by decide) ?_
    refine lv_aload_n hx hb dX3_runAndLog_48 rfl (lv_at hl 2 rfl) ?_
    refine g_get (v := .ref (ad 6)) (T := TX3) C hP 0 7 (by decide) rfl rfl inwX3 (by decide) kf_X3_43 rfl dX3_runAndLog_49 ?_
    refine lv_iload hx hb dX3_runAndLog_52 (lv_at hl 0 rfl) ?_
    refine lv_iconst (v := 1) hx hb dX3_runAndLog_54 (by decide) ?_
    refine lv_iadd hx hb dX3_runAndLog_55 ?_
    refine g_aldT C hP (ne + 1) (nI_addE rfl (show (1 : Int32) = nI 1 from rfl)) (by omega) dX3_runAndLog_56 ?_
    refine lv_iconst (v := 0) hx hb dX3_runAndLog_57 (by decide) ?_
    refine lv_bipush (v := 8) hx hb dX3_runAndLog_58 (by decide) ?_
    refine g_copyT C hP hS hl.1 ne (by omega) kl_X3_236 (by decide) (Nat.le_of_ble_eq_true rfl) dX3_runAndLog_60 (fun H locs hP hS => ?_)
    refine lv_iconst (v := 0) hx hb dX3_runAndLog_63 (by decide) ?_
    refine lv_istore (lv' := [(9, .int 0), (8, .int (nI ne)), (7, .ref (ad (95 + 4 * pp))), (0, .ref (ad 0)), (1, .int x1), (2, .long x2), (4, .int x4), (5, .int x5), (6, .int x6)]) hx hb dX3_runAndLog_64 hl (by decide) rfl (fun ls hl => ?_)
    have loop66 : ∀ (N : Nat) (i : Nat) (hi : i ≤ nn) (hfu : nn < i + N) (H : Heap) (locs : List Loc) (ls : Array Slot), gP D cy ad I (gRL (gcp (gPW L x2 (I (97 + 4 * pp)) nn x6) ne) (I (96 + 4 * pp)) (54 + (ne + 1)) i) H → va_S A s.heap H locs → lv_has ls 11 [(0, .ref (ad 0)), (1, .int x1), (2, .long x2), (4, .int x4), (5, .int x5), (6, .int x6), (7, .ref (ad (95 + 4 * pp))), (8, .int (nI ne)), (9, .int (nI i))] → W p l e (gR 3 1 6) s m ([.ref (ad 0), .int x1, .long x2, .int x4, .int x5, .int x6] : List Value).toArray below meth c H locs 1 6 (vx_MQ below (gQi D cy ad A (pq_X3_runAndLog pp nn ne x1 x2 x4 x5 x6 I L)) (gXC D cy ad A (px_X3_runAndLog pp nn ne x1 x2 x4 x5 x6 I L)) ([.ref (ad 0), .int x1, .long x2, .int x4, .int x5, .int x6] : List Value).toArray s 1 6 A) (F0 m 66 ls []) := by
      intro N
      induction N with
      | zero =>
        intro i hi hfu
        exact absurd hfu (by omega)
      | succ N ih =>
        intro i hi hfu H locs ls hP hS hl
        refine lv_iload hx hb dX3_runAndLog_66 (lv_at hl 8 rfl) ?_
        refine lv_aload hx hb dX3_runAndLog_68 (lv_at hl 6 rfl) ?_
        refine g_getN (v := .int (nI nn)) (T := TX1) C hP (95 + 4 * pp) 2 (by omega) (kd_P hp _ _) rfl inwX1 (by decide) kn_f88 (congrArg (fun z => some (Value.int z)) hn) dX3_runAndLog_70 ?_
        refine lv_icmp_ge (tgt := 131) hx hb dX3_runAndLog_73 (by decide) (fun c73 => ?_) (fun c73 => ?_)
        · have n73 : nn ≤ i := (nI_leeE rfl rfl (by omega) (by omega)).mp c73
          refine lv_aload_n hx hb dX3_runAndLog_131 rfl (lv_at hl 0 rfl) ?_
          refine g_get (v := .ref (ad 5)) (T := TX3) C hP 0 5 (by decide) rfl rfl inwX3 (by decide) kf_X3_34 rfl dX3_runAndLog_132 ?_
          refine lv_iload hx hb dX3_runAndLog_135 (lv_at hl 7 rfl) ?_
          refine g_aldE C hP ne rfl (by omega) dX3_runAndLog_137 ?_
          refine lv_iload_n hx hb dX3_runAndLog_138 rfl (lv_at hl 1 rfl) ?_
          refine lv_lload_n hx hb dX3_runAndLog_139 rfl (lv_at hl 2 rfl) ?_
          refine lv_iload hx hb dX3_runAndLog_140 (lv_at hl 3 rfl) ?_
          refine lv_iload hx hb dX3_runAndLog_142 (lv_at hl 4 rfl) ?_
          refine lv_iload hx hb dX3_runAndLog_144 (lv_at hl 5 rfl) ?_
          refine gM_callVNv (As := [.int x1, .long x2, .int x4, .int x5, .int x6]) (rest := []) C hP hS hl.1 (ct_X0_fill l D cy ad hJ ne x1 x2 x4 x5 x6 I (gRL (gcp (gPW L x2 (I (97 + 4 * pp)) nn x6) ne) (I (96 + 4 * pp)) (54 + (ne + 1)) i) (by omega)) fa_X0_fill kn_m246 ki_X0_fill kse_X0_fill (by omega) (T := TX0) (kd_E (by omega) _ _) rfl rfl (by decide) (Nat.le_of_ble_eq_true rfl) (by decide) dX3_runAndLog_146 rfl (fun I146 L146 H locs hq hP hS => ?_)
          obtain ⟨rfl, rfl⟩ := hq
          refine lv_aload_n hx hb dX3_runAndLog_149 rfl (lv_at hl 0 rfl) ?_
          refine lv_dup hx hb dX3_runAndLog_150 rfl ?_
          refine g_get (v := .int (nI ne)) (T := TX3) C hP 0 6 (by decide) rfl rfl inwX3 (by decide) kf_X3_38 (congrArg (fun z => some (Value.int z)) ((congrFun (sI_row (by omega)) _).trans ((congrFun (sI_row (by omega)) _).trans ((congrFun (sI_row (by omega)) _).trans ((congrFun (sI_row (by omega)) _).trans hne))))) dX3_runAndLog_151 ?_
          refine lv_iconst (v := 1) hx hb dX3_runAndLog_154 (by decide) ?_
          refine lv_iadd hx hb dX3_runAndLog_155 ?_
          refine g_putI (T := TX3) C hP hS 0 6 (by decide) rfl rfl inwX3 tyX3 tyX3_ok nmX3 (by decide) kf_X3_38 rfl rfl (by decide : 6 < 9) (by simp only [sI, va_up_self]; rfl) dX3_runAndLog_156 (fun H locs hP hS => ?_)
          refine lv_iload hx hb dX3_runAndLog_159 (lv_at hl 7 rfl) ?_
          exact gT_iret C hr hP hS (by decide) (by decide) dX3_runAndLog_161 (⟨h31_0, rfl, rfl, by rw [show nn = i by omega]⟩)  -- end 1: c21 : ¬ x6 = (-1) ; h31_0 : (∀ k, k < nn → ¬ gfl (I (96 + 4 * pp)) ((gPW L x2 (I (97 + 4 * pp)) nn x6) 1) ((gPW L x2 (I (97 + 4 * pp)) nn x6) 2) ((gPW L x2 (I (97 + 4 * pp)) nn x6) 7) k) ; n73 : nn ≤ i
        · have n73 : ¬ nn ≤ i := (not_congr (nI_leeE rfl rfl (by omega) (by omega))).mp c73
          refine lv_aload hx hb dX3_runAndLog_76 (lv_at hl 6 rfl) ?_
          refine g_getN (v := .ref (ad (96 + 4 * pp))) (T := TX1) C hP (95 + 4 * pp) 0 (by omega) (kd_P hp _ _) rfl inwX1 (by decide) kn_f242 rfl dX3_runAndLog_78 ?_
          refine lv_iload hx hb dX3_runAndLog_81 (lv_at hl 8 rfl) ?_
          refine g_iald (v := I (96 + 4 * pp) i) C hP (96 + 4 * pp) 4 (by omega) (kd_PA hp) i rfl rfl (by omega) (by decide) dX3_runAndLog_83 ?_
          obtain ⟨e84, l84⟩ := vp_ix (hac i (by omega))
          refine lv_istore (lv' := [(10, .int (I (96 + 4 * pp) i)), (0, .ref (ad 0)), (1, .int x1), (2, .long x2), (4, .int x4), (5, .int x5), (6, .int x6), (7, .ref (ad (95 + 4 * pp))), (8, .int (nI ne)), (9, .int (nI i))]) hx hb dX3_runAndLog_84 hl (by decide) rfl (fun ls hl => ?_)
          refine lv_aload_n hx hb dX3_runAndLog_86 rfl (lv_at hl 1 rfl) ?_
          refine g_get (v := .ref (ad 1)) (T := TX3) C hP 0 0 (by decide) rfl rfl inwX3 (by decide) kf_X3_9 rfl dX3_runAndLog_87 ?_
          refine lv_iload hx hb dX3_runAndLog_90 (lv_at hl 0 rfl) ?_
          refine lv_dup2_11 hx hb dX3_runAndLog_92 rfl rfl ?_
          refine g_lald (v := (gRL (gcp (gPW L x2 (I (97 + 4 * pp)) nn x6) ne) (I (96 + 4 * pp)) (54 + (ne + 1)) i) 1 ((I (96 + 4 * pp) i).toNatClampNeg)) C hP 1 8 (by decide) (fun _ _ => rfl) ((I (96 + 4 * pp) i).toNatClampNeg) e84 rfl (by omega) (by decide) dX3_runAndLog_93 ?_
          refine lv_aload_n hx hb dX3_runAndLog_94 rfl (lv_at hl 1 rfl) ?_
          refine g_get (v := .ref (ad 7)) (T := TX3) C hP 0 8 (by decide) rfl rfl inwX3 (by decide) kf_X3_46 rfl dX3_runAndLog_95 ?_
          refine lv_iload hx hb dX3_runAndLog_98 (lv_at hl 9 rfl) ?_
          refine g_lald (v := (gRL (gcp (gPW L x2 (I (97 + 4 * pp)) nn x6) ne) (I (96 + 4 * pp)) (54 + (ne + 1)) i) 7 i) C hP 7 4 (by decide) (fun _ _ => rfl) i rfl rfl (by omega) (by decide) dX3_runAndLog_100 ?_
          refine lv_ladd hx hb dX3_runAndLog_101 ?_
          refine g_last C hP hS 1 8 (by decide) (fun _ _ => rfl) ((I (96 + 4 * pp) i).toNatClampNeg) e84 (by omega) (by decide) dX3_runAndLog_102 (fun H locs hP hS => ?_)
          refine lv_aload_n hx hb dX3_runAndLog_103 rfl (lv_at hl 1 rfl) ?_
          refine g_get (v := .ref (ad 6)) (T := TX3) C hP 0 7 (by decide) rfl rfl inwX3 (by decide) kf_X3_43 rfl dX3_runAndLog_104 ?_
          refine lv_iload hx hb dX3_runAndLog_107 (lv_at hl 8 rfl) ?_
          refine lv_iconst (v := 1) hx hb dX3_runAndLog_109 (by decide) ?_
          refine lv_iadd hx hb dX3_runAndLog_110 ?_
          refine g_aldT C hP (ne + 1) (nI_addE rfl (show (1 : Int32) = nI 1 from rfl)) (by omega) dX3_runAndLog_111 ?_
          refine lv_iload hx hb dX3_runAndLog_112 (lv_at hl 0 rfl) ?_
          refine lv_dup2_11 hx hb dX3_runAndLog_114 rfl rfl ?_
          refine g_lald (v := (gRL (gcp (gPW L x2 (I (97 + 4 * pp)) nn x6) ne) (I (96 + 4 * pp)) (54 + (ne + 1)) i) (54 + (ne + 1)) ((I (96 + 4 * pp) i).toNatClampNeg)) C hP (54 + (ne + 1)) 8 (by omega) (kd_T (by omega)) ((I (96 + 4 * pp) i).toNatClampNeg) e84 (congrFun (sL_row (by omega)) _) (by omega) (by decide) dX3_runAndLog_115 ?_
          refine lv_aload_n hx hb dX3_runAndLog_116 rfl (lv_at hl 1 rfl) ?_
          refine g_get (v := .ref (ad 7)) (T := TX3) C hP 0 8 (by decide) rfl rfl inwX3 (by decide) kf_X3_46 rfl dX3_runAndLog_117 ?_
          refine lv_iload hx hb dX3_runAndLog_120 (lv_at hl 9 rfl) ?_
          refine g_lald (v := (gRL (gcp (gPW L x2 (I (97 + 4 * pp)) nn x6) ne) (I (96 + 4 * pp)) (54 + (ne + 1)) i) 7 i) C hP 7 4 (by decide) (fun _ _ => rfl) i rfl (congrFun (sL_row (by decide)) _) (by omega) (by decide) dX3_runAndLog_122 ?_
          refine lv_ladd hx hb dX3_runAndLog_123 ?_
          refine g_last C hP hS (54 + (ne + 1)) 8 (by omega) (kd_T (by omega)) ((I (96 + 4 * pp) i).toNatClampNeg) e84 (by omega) (by decide) dX3_runAndLog_124 (fun H locs hP hS => ?_)
          refine lv_iinc (v := nI (i + 1)) (lv' := [(9, .int (nI (i + 1))), (10, .int (I (96 + 4 * pp) i)), (0, .ref (ad 0)), (1, .int x1), (2, .long x2), (4, .int x4), (5, .int x5), (6, .int x6), (7, .ref (ad (95 + 4 * pp))), (8, .int (nI ne))]) hx hb dX3_runAndLog_125 hl (k := 9) rfl (nI_1 _) (by decide) rfl (fun ls hl => ?_)
          refine lv_goto (tgt := 66) hx hb dX3_runAndLog_128 (by decide) ?_
          rw [gRL_s _ _ _ _ _ (by omega) (by omega) rfl] at hP
          exact ih (i + 1) (by omega) (by omega) _ _ _ hP hS (lv_sub hl [2, 3, 4, 5, 6, 7, 8, 9, 0] rfl)
    exact loop66 (nn + 1) 0 (Nat.zero_le _) (by omega) _ _ _ (by rw [gRL_0]; exact hP) hS (lv_sub hl [3, 4, 5, 6, 7, 8, 2, 1, 0] rfl)
def pq_X3_draw (np : Nat) (lc : Nat → Nat) (x1 : Int32) (x2 : Int32) (I : MI) (L : ML) : Int32 → MI → ML → Prop := fun r I' L' => (vp_in x1 8 ∧ gSh x2 ∧ np < 10 ∧ nI np = r ∧ (sI (sI (sI (sI I (96 + 4 * np) 0 x1) (97 + 4 * np) 0 x2) (95 + 4 * np) 2 ((nI 0) + 1)) 0 3 ((nI np) + 1)) = I' ∧ L = L')
def px_X3_draw (np : Nat) (lc : Nat → Nat) (x1 : Int32) (x2 : Int32) (I : MI) (L : ML) : String → MI → ML → Prop := fun E I' L' => (¬ vp_in x1 8 ∧ xIO = E ∧ I = I' ∧ L = L') ∨ (vp_in x1 8 ∧ ¬ gSh x2 ∧ xIA = E ∧ I = I' ∧ L = L') ∨ (vp_in x1 8 ∧ gSh x2 ∧ ¬ np < 10 ∧ xIS = E ∧ I = I' ∧ L = L')
set_option maxRecDepth 100000 in
set_option maxHeartbeats 4000000 in
theorem ct_X3_draw (l : Launch) (D : va_G) (cy : Nat → ClassId) (ad : Nat → Nat) (hJ : gJ ad) (hlf : l.stackTraces = false) (np : Nat) (lc : Nat → Nat) (x1 : Int32) (x2 : Int32) (I : MI) (L : ML) (hnp : I 0 3 = nI np) (hnp10 : np ≤ 10) (hlc : ∀ pp, pp < 10 → I (95 + 4 * pp) 2 = nI (lc pp)) (hlc4 : ∀ pp, pp < 10 → lc pp ≤ 4) (hlc0 : ∀ p, np ≤ p → p < 10 → lc p = 0) : gTi l D cy ad yX3_draw cX3_draw 4 .int (gR 1 3 18) [.ref (ad 0), .int x1, .int x2] I L (pq_X3_draw np lc x1 x2 I L) (px_X3_draw np lc x1 x2 I L) := by
  refine gTi_of hJ (by decide +kernel) kc_X3_draw (Nat.le_of_ble_eq_true rfl) (fun p e s m below meth c A ls C hr ht hP hS hl => ?_)
  have hx := C.hx
  have hb := C.hb
  have hl : lv_has ls 4 [(0, .ref (ad 0)), (1, .int x1), (2, .int x2)] := hl
  refine lv_iload_n hx hb dX3_draw_0 rfl (lv_at hl 1 rfl) ?_
  refine gT_callSv (As := [.int x1]) (rest := []) C hP hS hl.1 (ct_X3_requireAccount l D cy ad hJ hlf x1 I L) fa_X3_requireAccount kl_X3_54 kst_X3_requireAccount rfl (by decide) (Nat.le_of_ble_eq_true rfl) (by decide) (ht) (by decide) (fun E9 I9 L9 hx9 => Or.inl (hx9)) dX3_draw_1 rfl (fun I1 L1 H locs hq hP hS => ?_)
  obtain ⟨h1_0, rfl, rfl⟩ := hq
  obtain ⟨e1_0, l1_0⟩ := vp_ix h1_0
  refine lv_iload_n hx hb dX3_draw_4 rfl (lv_at hl 2 rfl) ?_
  refine gT_callSv (As := [.int x2]) (rest := []) C hP hS hl.1 (ct_X3_requireShare l D cy ad hJ hlf x2 I L) fa_X3_requireShare kl_X3_58 kst_X3_requireShare rfl (by decide) (Nat.le_of_ble_eq_true rfl) (by decide) (ht) (by decide) (fun E9 I9 L9 hx9 => Or.inr (Or.inl (⟨h1_0, hx9⟩))) dX3_draw_5 rfl (fun I5 L5 H locs hq hP hS => ?_)
  obtain ⟨h5_0, rfl, rfl⟩ := hq
  refine lv_aload_n hx hb dX3_draw_8 rfl (lv_at hl 0 rfl) ?_
  refine g_get (v := .int (nI np)) (T := TX3) C hP 0 3 (by decide) rfl rfl inwX3 (by decide) kf_X3_22 (congrArg (fun z => some (Value.int z)) hnp) dX3_draw_9 ?_
  refine lv_bipush (v := 10) hx hb dX3_draw_12 (by decide) ?_
  refine lv_icmp_lt (tgt := 27) hx hb dX3_draw_14 (by decide) (fun c14 => ?_) (fun c14 => ?_)
  · have n14 : np < 10 := (nI_lttE rfl (show (10 : Int32) = nI 10 from rfl) (by omega) (by omega)).mp c14
    refine lv_aload_n hx hb dX3_draw_27 rfl (lv_at hl 0 rfl) ?_
    refine g_get (v := .int (nI np)) (T := TX3) C hP 0 3 (by decide) rfl rfl inwX3 (by decide) kf_X3_22 (congrArg (fun z => some (Value.int z)) hnp) dX3_draw_28 ?_
    refine lv_istore_n (lv' := [(3, .int (nI np)), (0, .ref (ad 0)), (1, .int x1), (2, .int x2)]) hx hb dX3_draw_31 rfl hl (by decide) rfl (fun ls hl => ?_)
    refine lv_aload_n hx hb dX3_draw_32 rfl (lv_at hl 1 rfl) ?_
    refine g_get (v := .ref (ad 3)) (T := TX3) C hP 0 2 (by decide) rfl rfl inwX3 (by decide) kf_X3_18 rfl dX3_draw_33 ?_
    refine lv_iload_n hx hb dX3_draw_36 rfl (lv_at hl 0 rfl) ?_
    refine g_aldP C hP np rfl (by omega) dX3_draw_37 ?_
    refine lv_iload_n hx hb dX3_draw_38 rfl (lv_at hl 2 rfl) ?_
    refine lv_iload_n hx hb dX3_draw_39 rfl (lv_at hl 3 rfl) ?_
    refine gM_callVNv (As := [.int x1, .int x2]) (rest := []) C hP hS hl.1 (ct_X1_appendLine l D cy ad hJ np 0 x1 x2 I L (by omega) ((hlc np (by omega)).trans (by rw [hlc0 np (Nat.le_refl _) (by omega)])) (by omega)) fa_X1_appendLine kn_m68 ki_X1_appendLine kse_X1_appendLine (by omega) (T := TX1) (kd_P (by omega) _ _) rfl rfl (by decide) (Nat.le_of_ble_eq_true rfl) (by decide) dX3_draw_40 rfl (fun I40 L40 H locs hq hP hS => ?_)
    obtain ⟨rfl, rfl⟩ := hq
    refine lv_aload_n hx hb dX3_draw_43 rfl (lv_at hl 1 rfl) ?_
    refine lv_dup hx hb dX3_draw_44 rfl ?_
    refine g_get (v := .int (nI np)) (T := TX3) C hP 0 3 (by decide) rfl rfl inwX3 (by decide) kf_X3_22 (congrArg (fun z => some (Value.int z)) ((congrFun (sI_row (by omega)) _).trans ((congrFun (sI_row (by omega)) _).trans ((congrFun (sI_row (by omega)) _).trans hnp)))) dX3_draw_45 ?_
    refine lv_iconst (v := 1) hx hb dX3_draw_48 (by decide) ?_
    refine lv_iadd hx hb dX3_draw_49 ?_
    refine g_putI (T := TX3) C hP hS 0 3 (by decide) rfl rfl inwX3 tyX3 tyX3_ok nmX3 (by decide) kf_X3_22 rfl rfl (by decide : 3 < 9) (by simp only [sI, va_up_self]; rfl) dX3_draw_50 (fun H locs hP hS => ?_)
    refine lv_iload_n hx hb dX3_draw_53 rfl (lv_at hl 0 rfl) ?_
    exact gT_iret C hr hP hS (by decide) (by decide) dX3_draw_54 (⟨h1_0, h5_0, n14, rfl, rfl, rfl⟩)
  · have n14 : ¬ np < 10 := (not_congr (nI_lttE rfl (show (10 : Int32) = nI 10 from rfl) (by omega) (by omega))).mp c14
    exact g_throwS (cls := xIS) C hlf hP hS hl.1 (by decide) kcl_X3_61 kini_IllegalStateException ks_63 gat_65 gan_65 gao_65 dX3_draw_17 dX3_draw_20 dX3_draw_21 dX3_draw_23 dX3_draw_26 ht (by decide) (by decide) (by decide) (by decide) (by decide) (Or.inr (Or.inr (⟨h1_0, h5_0, n14, rfl, rfl, rfl⟩)))
def pq_X3_add (np : Nat) (lc : Nat → Nat) (x1 : Int32) (x2 : Int32) (x3 : Int32) (I : MI) (L : ML) : Int32 → MI → ML → Prop := fun r I' L' => (vp_in x1 np ∧ vp_in x2 8 ∧ gSh x3 ∧ (¬ (∃ k, k < lc x1.toNatClampNeg ∧ I (96 + 4 * x1.toNatClampNeg) k = x2)) ∧ (I (95 + 4 * x1.toNatClampNeg) 3) = (-1) ∧ (lc x1.toNatClampNeg) < 4 ∧ (nI (lc x1.toNatClampNeg)) + 1 = r ∧ (sI (sI (sI I (96 + 4 * x1.toNatClampNeg) (lc x1.toNatClampNeg) x2) (97 + 4 * x1.toNatClampNeg) (lc x1.toNatClampNeg) x3) (95 + 4 * x1.toNatClampNeg) 2 ((nI (lc x1.toNatClampNeg)) + 1)) = I' ∧ L = L')
def px_X3_add (np : Nat) (lc : Nat → Nat) (x1 : Int32) (x2 : Int32) (x3 : Int32) (I : MI) (L : ML) : String → MI → ML → Prop := fun E I' L' => (¬ vp_in x1 np ∧ xIO = E ∧ I = I' ∧ L = L') ∨ (vp_in x1 np ∧ ¬ vp_in x2 8 ∧ xIO = E ∧ I = I' ∧ L = L') ∨ (vp_in x1 np ∧ vp_in x2 8 ∧ ¬ gSh x3 ∧ xIA = E ∧ I = I' ∧ L = L') ∨ (vp_in x1 np ∧ vp_in x2 8 ∧ gSh x3 ∧ (∃ k, k < lc x1.toNatClampNeg ∧ I (96 + 4 * x1.toNatClampNeg) k = x2) ∧ xIA = E ∧ I = I' ∧ L = L') ∨ (vp_in x1 np ∧ vp_in x2 8 ∧ gSh x3 ∧ (¬ (∃ k, k < lc x1.toNatClampNeg ∧ I (96 + 4 * x1.toNatClampNeg) k = x2)) ∧ (I (95 + 4 * x1.toNatClampNeg) 3) = (-1) ∧ ¬ (lc x1.toNatClampNeg) < 4 ∧ xIS = E ∧ I = I' ∧ L = L') ∨ (vp_in x1 np ∧ vp_in x2 8 ∧ gSh x3 ∧ (¬ (∃ k, k < lc x1.toNatClampNeg ∧ I (96 + 4 * x1.toNatClampNeg) k = x2)) ∧ ¬ (I (95 + 4 * x1.toNatClampNeg) 3) = (-1) ∧ xIS = E ∧ I = I' ∧ L = L')
set_option maxRecDepth 100000 in
set_option maxHeartbeats 4000000 in
theorem ct_X3_add (l : Launch) (D : va_G) (cy : Nat → ClassId) (ad : Nat → Nat) (hJ : gJ ad) (hlf : l.stackTraces = false) (np : Nat) (lc : Nat → Nat) (x1 : Int32) (x2 : Int32) (x3 : Int32) (I : MI) (L : ML) (hnp : I 0 3 = nI np) (hnp10 : np ≤ 10) (hlc : ∀ pp, pp < 10 → I (95 + 4 * pp) 2 = nI (lc pp)) (hlc4 : ∀ pp, pp < 10 → lc pp ≤ 4) : gTi l D cy ad yX3_add cX3_add 5 .int (gR 1 4 24) [.ref (ad 0), .int x1, .int x2, .int x3] I L (pq_X3_add np lc x1 x2 x3 I L) (px_X3_add np lc x1 x2 x3 I L) := by
  refine gTi_of hJ (by decide +kernel) kc_X3_add (Nat.le_of_ble_eq_true rfl) (fun p e s m below meth c A ls C hr ht hP hS hl => ?_)
  have hx := C.hx
  have hb := C.hb
  have hl : lv_has ls 5 [(0, .ref (ad 0)), (1, .int x1), (2, .int x2), (3, .int x3)] := hl
  refine lv_aload_n hx hb dX3_add_0 rfl (lv_at hl 0 rfl) ?_
  refine lv_iload_n hx hb dX3_add_1 rfl (lv_at hl 1 rfl) ?_
  refine gT_callVv (As := [.int x1]) (rest := []) C hP hS hl.1 (ct_X3_requireProcedure l D cy ad hJ hlf np x1 I L hnp hnp10) fa_X3_requireProcedure kl_X3_72 ki_X3_requireProcedure kse_X3_requireProcedure (by decide) (T := TX3) rfl rfl rfl (by decide) (Nat.le_of_ble_eq_true rfl) (by decide) (ht) (by decide) (fun E9 I9 L9 hx9 => Or.inl (hx9)) dX3_add_2 rfl (fun I2 L2 H locs hq hP hS => ?_)
  obtain ⟨h2_0, rfl, rfl⟩ := hq
  obtain ⟨e2_0, l2_0⟩ := vp_ix h2_0
  refine lv_iload_n hx hb dX3_add_5 rfl (lv_at hl 2 rfl) ?_
  refine gT_callSv (As := [.int x2]) (rest := []) C hP hS hl.1 (ct_X3_requireAccount l D cy ad hJ hlf x2 I L) fa_X3_requireAccount kl_X3_54 kst_X3_requireAccount rfl (by decide) (Nat.le_of_ble_eq_true rfl) (by decide) (ht) (by decide) (fun E9 I9 L9 hx9 => Or.inr (Or.inl (⟨h2_0, hx9⟩))) dX3_add_6 rfl (fun I6 L6 H locs hq hP hS => ?_)
  obtain ⟨h6_0, rfl, rfl⟩ := hq
  obtain ⟨e6_0, l6_0⟩ := vp_ix h6_0
  refine lv_iload_n hx hb dX3_add_9 rfl (lv_at hl 3 rfl) ?_
  refine gT_callSv (As := [.int x3]) (rest := []) C hP hS hl.1 (ct_X3_requireShare l D cy ad hJ hlf x3 I L) fa_X3_requireShare kl_X3_58 kst_X3_requireShare rfl (by decide) (Nat.le_of_ble_eq_true rfl) (by decide) (ht) (by decide) (fun E9 I9 L9 hx9 => Or.inr (Or.inr (Or.inl (⟨h2_0, h6_0, hx9⟩)))) dX3_add_10 rfl (fun I10 L10 H locs hq hP hS => ?_)
  obtain ⟨h10_0, rfl, rfl⟩ := hq
  refine lv_aload_n hx hb dX3_add_13 rfl (lv_at hl 0 rfl) ?_
  refine g_get (v := .ref (ad 3)) (T := TX3) C hP 0 2 (by decide) rfl rfl inwX3 (by decide) kf_X3_18 rfl dX3_add_14 ?_
  refine lv_iload_n hx hb dX3_add_17 rfl (lv_at hl 1 rfl) ?_
  refine g_aldP C hP x1.toNatClampNeg e2_0 (by omega) dX3_add_18 ?_
  refine lv_astore (lv' := [(4, .ref (ad (95 + 4 * x1.toNatClampNeg))), (0, .ref (ad 0)), (1, .int x1), (2, .int x2), (3, .int x3)]) hx hb dX3_add_19 hl (by decide) rfl (fun ls hl => ?_)
  refine lv_aload hx hb dX3_add_21 (lv_at hl 0 rfl) ?_
  refine lv_iload_n hx hb dX3_add_23 rfl (lv_at hl 3 rfl) ?_
  refine gM_callVNi (As := [.int x2]) (rest := []) C hP hS hl.1 (ct_X1_hasLineFor l D cy ad hJ x1.toNatClampNeg (lc x1.toNatClampNeg) x2 I L (by omega) (hlc x1.toNatClampNeg (by omega)) (hlc4 x1.toNatClampNeg (by omega))) fa_X1_hasLineFor kn_m75 ki_X1_hasLineFor kse_X1_hasLineFor (by omega) (T := TX1) (kd_P (by omega) _ _) rfl rfl (by decide) (Nat.le_of_ble_eq_true rfl) (by decide) dX3_add_24 rfl (fun r24 I24 L24 H locs hq hP hS => ?_)
  rcases hq with ⟨h24_0, rfl, rfl, rfl⟩ | ⟨h24_0, rfl, rfl, rfl⟩
  · refine lv_if_eq (tgt := 40) hx hb dX3_add_27 (by decide) (fun c => absurd c (by decide)) (fun c => ?_)
    exact g_throwS (cls := xIA) C hlf hP hS hl.1 (by decide) kcl_X3_79 kini_IllegalArgumentException ks_81 gat_83 gan_83 gao_83 dX3_add_30 dX3_add_33 dX3_add_34 dX3_add_36 dX3_add_39 ht (by decide) (by decide) (by decide) (by decide) (by decide) (Or.inr (Or.inr (Or.inr (Or.inl (⟨h2_0, h6_0, h10_0, h24_0, rfl, rfl, rfl⟩)))))
  · refine lv_if_eq (tgt := 40) hx hb dX3_add_27 (by decide) (fun c => ?_) (fun c => absurd c (by decide))
    refine lv_aload hx hb dX3_add_40 (lv_at hl 0 rfl) ?_
    refine gM_callVNi (As := []) (rest := []) C hP hS hl.1 (ct_X1_isCertified l D cy ad hJ x1.toNatClampNeg I L (by omega)) fa_X1_isCertified kn_m84 ki_X1_isCertified kse_X1_isCertified (by omega) (T := TX1) (kd_P (by omega) _ _) rfl rfl (by decide) (Nat.le_of_ble_eq_true rfl) (by decide) dX3_add_42 rfl (fun r42 I42 L42 H locs hq hP hS => ?_)
    rcases hq with ⟨h42_0, rfl, rfl, rfl⟩ | ⟨h42_0, rfl, rfl, rfl⟩
    · refine lv_if_ne (tgt := 57) hx hb dX3_add_45 (by decide) (fun c => absurd c (by decide)) (fun c => ?_)
      refine lv_aload hx hb dX3_add_48 (lv_at hl 0 rfl) ?_
      have g50 := hlc4 x1.toNatClampNeg (by omega)
      refine g_getN (v := .int (nI (lc x1.toNatClampNeg))) (T := TX1) C hP (95 + 4 * x1.toNatClampNeg) 2 (by omega) (kd_P (by omega) _ _) rfl inwX1 (by decide) kn_f88 (congrArg (fun z => some (Value.int z)) (hlc x1.toNatClampNeg (by omega))) dX3_add_50 ?_
      refine lv_iconst (v := 4) hx hb dX3_add_53 (by decide) ?_
      refine lv_icmp_lt (tgt := 67) hx hb dX3_add_54 (by decide) (fun c54 => ?_) (fun c54 => ?_)
      · have n54 : (lc x1.toNatClampNeg) < 4 := (nI_lttE rfl (show (4 : Int32) = nI 4 from rfl) (by omega) (by omega)).mp c54
        refine lv_aload hx hb dX3_add_67 (lv_at hl 0 rfl) ?_
        refine lv_iload_n hx hb dX3_add_69 rfl (lv_at hl 3 rfl) ?_
        refine lv_iload_n hx hb dX3_add_70 rfl (lv_at hl 4 rfl) ?_
        refine gM_callVNv (As := [.int x2, .int x3]) (rest := []) C hP hS hl.1 (ct_X1_appendLine l D cy ad hJ x1.toNatClampNeg (lc x1.toNatClampNeg) x2 x3 I L (by omega) (hlc x1.toNatClampNeg (by omega)) (by omega)) fa_X1_appendLine kn_m68 ki_X1_appendLine kse_X1_appendLine (by omega) (T := TX1) (kd_P (by omega) _ _) rfl rfl (by decide) (Nat.le_of_ble_eq_true rfl) (by decide) dX3_add_71 rfl (fun I71 L71 H locs hq hP hS => ?_)
        obtain ⟨rfl, rfl⟩ := hq
        refine lv_aload hx hb dX3_add_74 (lv_at hl 0 rfl) ?_
        have g76 := hlc4 x1.toNatClampNeg (by omega)
        refine g_getN (v := .int ((nI (lc x1.toNatClampNeg)) + 1)) (T := TX1) C hP (95 + 4 * x1.toNatClampNeg) 2 (by omega) (kd_P (by omega) _ _) rfl inwX1 (by decide) kn_f88 (congrArg (fun z => some (Value.int z)) sI_eq) dX3_add_76 ?_
        exact gT_iret C hr hP hS (by decide) (by decide) dX3_add_79 (⟨h2_0, h6_0, h10_0, h24_0, h42_0, n54, rfl, rfl, rfl⟩)
      · have n54 : ¬ (lc x1.toNatClampNeg) < 4 := (not_congr (nI_lttE rfl (show (4 : Int32) = nI 4 from rfl) (by omega) (by omega))).mp c54
        exact g_throwS (cls := xIS) C hlf hP hS hl.1 (by decide) kcl_X3_61 kini_IllegalStateException ks_91 gat_65 gan_65 gao_65 dX3_add_57 dX3_add_60 dX3_add_61 dX3_add_63 dX3_add_66 ht (by decide) (by decide) (by decide) (by decide) (by decide) (Or.inr (Or.inr (Or.inr (Or.inr (Or.inl (⟨h2_0, h6_0, h10_0, h24_0, h42_0, n54, rfl, rfl, rfl⟩))))))
    · refine lv_if_ne (tgt := 57) hx hb dX3_add_45 (by decide) (fun c => ?_) (fun c => absurd c (by decide))
      exact g_throwS (cls := xIS) C hlf hP hS hl.1 (by decide) kcl_X3_61 kini_IllegalStateException ks_91 gat_65 gan_65 gao_65 dX3_add_57 dX3_add_60 dX3_add_61 dX3_add_63 dX3_add_66 ht (by decide) (by decide) (by decide) (by decide) (by decide) (Or.inr (Or.inr (Or.inr (Or.inr (Or.inr (⟨h2_0, h6_0, h10_0, h24_0, h42_0, rfl, rfl, rfl⟩))))))
def pq_X3_certify (np : Nat) (lc : Nat → Nat) (x1 : Int32) (x2 : Int32) (I : MI) (L : ML) : MI → ML → Prop := fun I' L' => (vp_in x1 8 ∧ vp_in x2 np ∧ x1 < 2 ∧ (I (95 + 4 * x2.toNatClampNeg) 3) = (-1) ∧ ¬ (lc x2.toNatClampNeg) < 2 ∧ (gsm (I (97 + 4 * x2.toNatClampNeg)) (lc x2.toNatClampNeg)) = 0 ∧ (sI I (95 + 4 * x2.toNatClampNeg) 3 x1) = I' ∧ L = L')
def px_X3_certify (np : Nat) (lc : Nat → Nat) (x1 : Int32) (x2 : Int32) (I : MI) (L : ML) : String → MI → ML → Prop := fun E I' L' => (¬ vp_in x1 8 ∧ xIO = E ∧ I = I' ∧ L = L') ∨ (vp_in x1 8 ∧ ¬ vp_in x2 np ∧ xIO = E ∧ I = I' ∧ L = L') ∨ (vp_in x1 8 ∧ vp_in x2 np ∧ ¬ x1 < 2 ∧ xUO = E ∧ I = I' ∧ L = L') ∨ (vp_in x1 8 ∧ vp_in x2 np ∧ x1 < 2 ∧ (I (95 + 4 * x2.toNatClampNeg) 3) = (-1) ∧ (lc x2.toNatClampNeg) < 2 ∧ xIS = E ∧ I = I' ∧ L = L') ∨ (vp_in x1 8 ∧ vp_in x2 np ∧ x1 < 2 ∧ (I (95 + 4 * x2.toNatClampNeg) 3) = (-1) ∧ ¬ (lc x2.toNatClampNeg) < 2 ∧ ¬ (gsm (I (97 + 4 * x2.toNatClampNeg)) (lc x2.toNatClampNeg)) = 0 ∧ xIS = E ∧ I = I' ∧ L = L') ∨ (vp_in x1 8 ∧ vp_in x2 np ∧ x1 < 2 ∧ ¬ (I (95 + 4 * x2.toNatClampNeg) 3) = (-1) ∧ xIS = E ∧ I = I' ∧ L = L')
set_option maxRecDepth 100000 in
set_option maxHeartbeats 4000000 in
theorem ct_X3_certify (l : Launch) (D : va_G) (cy : Nat → ClassId) (ad : Nat → Nat) (hJ : gJ ad) (hlf : l.stackTraces = false) (np : Nat) (lc : Nat → Nat) (x1 : Int32) (x2 : Int32) (I : MI) (L : ML) (hnp : I 0 3 = nI np) (hnp10 : np ≤ 10) (hlc : ∀ pp, pp < 10 → I (95 + 4 * pp) 2 = nI (lc pp)) (hlc4 : ∀ pp, pp < 10 → lc pp ≤ 4) : gTv l D cy ad yX3_certify cX3_certify 4 (gR 1 4 24) [.ref (ad 0), .int x1, .int x2] I L (pq_X3_certify np lc x1 x2 I L) (px_X3_certify np lc x1 x2 I L) := by
  refine gTv_of hJ (by decide +kernel) kc_X3_certify (Nat.le_of_ble_eq_true rfl) (fun p e s m below meth c A ls C hr ht hP hS hl => ?_)
  have hx := C.hx
  have hb := C.hb
  have hl : lv_has ls 4 [(0, .ref (ad 0)), (1, .int x1), (2, .int x2)] := hl
  refine lv_iload_n hx hb dX3_certify_0 rfl (lv_at hl 1 rfl) ?_
  refine gT_callSv (As := [.int x1]) (rest := []) C hP hS hl.1 (ct_X3_requireUser l D cy ad hJ hlf x1 I L) fa_X3_requireUser kl_X3_93 kst_X3_requireUser rfl (by decide) (Nat.le_of_ble_eq_true rfl) (by decide) (ht) (by decide) (fun E9 I9 L9 hx9 => Or.inl (hx9)) dX3_certify_1 rfl (fun I1 L1 H locs hq hP hS => ?_)
  obtain ⟨h1_0, rfl, rfl⟩ := hq
  obtain ⟨e1_0, l1_0⟩ := vp_ix h1_0
  refine lv_aload_n hx hb dX3_certify_4 rfl (lv_at hl 0 rfl) ?_
  refine lv_iload_n hx hb dX3_certify_5 rfl (lv_at hl 2 rfl) ?_
  refine gT_callVv (As := [.int x2]) (rest := []) C hP hS hl.1 (ct_X3_requireProcedure l D cy ad hJ hlf np x2 I L hnp hnp10) fa_X3_requireProcedure kl_X3_72 ki_X3_requireProcedure kse_X3_requireProcedure (by decide) (T := TX3) rfl rfl rfl (by decide) (Nat.le_of_ble_eq_true rfl) (by decide) (ht) (by decide) (fun E9 I9 L9 hx9 => Or.inr (Or.inl (⟨h1_0, hx9⟩))) dX3_certify_6 rfl (fun I6 L6 H locs hq hP hS => ?_)
  obtain ⟨h6_0, rfl, rfl⟩ := hq
  obtain ⟨e6_0, l6_0⟩ := vp_ix h6_0
  refine lv_iload_n hx hb dX3_certify_9 rfl (lv_at hl 1 rfl) ?_
  refine gT_callSv (As := [.int x1]) (rest := []) C hP hS hl.1 (ct_X3_requireOfficer l D cy ad hJ hlf x1 I L) fa_X3_requireOfficer kl_X3_96 kst_X3_requireOfficer rfl (by decide) (Nat.le_of_ble_eq_true rfl) (by decide) (ht) (by decide) (fun E9 I9 L9 hx9 => Or.inr (Or.inr (Or.inl (⟨h1_0, h6_0, hx9⟩)))) dX3_certify_10 rfl (fun I10 L10 H locs hq hP hS => ?_)
  obtain ⟨h10_0, rfl, rfl⟩ := hq
  refine lv_aload_n hx hb dX3_certify_13 rfl (lv_at hl 0 rfl) ?_
  refine g_get (v := .ref (ad 3)) (T := TX3) C hP 0 2 (by decide) rfl rfl inwX3 (by decide) kf_X3_18 rfl dX3_certify_14 ?_
  refine lv_iload_n hx hb dX3_certify_17 rfl (lv_at hl 2 rfl) ?_
  refine g_aldP C hP x2.toNatClampNeg e6_0 (by omega) dX3_certify_18 ?_
  refine lv_astore_n (lv' := [(3, .ref (ad (95 + 4 * x2.toNatClampNeg))), (0, .ref (ad 0)), (1, .int x1), (2, .int x2)]) hx hb dX3_certify_19 rfl hl (by decide) rfl (fun ls hl => ?_)
  refine lv_aload_n hx hb dX3_certify_20 rfl (lv_at hl 0 rfl) ?_
  refine gM_callVNi (As := []) (rest := []) C hP hS hl.1 (ct_X1_isCertified l D cy ad hJ x2.toNatClampNeg I L (by omega)) fa_X1_isCertified kn_m84 ki_X1_isCertified kse_X1_isCertified (by omega) (T := TX1) (kd_P (by omega) _ _) rfl rfl (by decide) (Nat.le_of_ble_eq_true rfl) (by decide) dX3_certify_21 rfl (fun r21 I21 L21 H locs hq hP hS => ?_)
  rcases hq with ⟨h21_0, rfl, rfl, rfl⟩ | ⟨h21_0, rfl, rfl, rfl⟩
  · refine lv_if_ne (tgt := 42) hx hb dX3_certify_24 (by decide) (fun c => absurd c (by decide)) (fun c => ?_)
    refine lv_aload_n hx hb dX3_certify_27 rfl (lv_at hl 0 rfl) ?_
    have g28 := hlc4 x2.toNatClampNeg (by omega)
    refine g_getN (v := .int (nI (lc x2.toNatClampNeg))) (T := TX1) C hP (95 + 4 * x2.toNatClampNeg) 2 (by omega) (kd_P (by omega) _ _) rfl inwX1 (by decide) kn_f88 (congrArg (fun z => some (Value.int z)) (hlc x2.toNatClampNeg (by omega))) dX3_certify_28 ?_
    refine lv_iconst (v := 2) hx hb dX3_certify_31 (by decide) ?_
    refine lv_icmp_lt (tgt := 42) hx hb dX3_certify_32 (by decide) (fun c32 => ?_) (fun c32 => ?_)
    · have n32 : (lc x2.toNatClampNeg) < 2 := (nI_lttE rfl (show (2 : Int32) = nI 2 from rfl) (by omega) (by omega)).mp c32
      exact g_throwS (cls := xIS) C hlf hP hS hl.1 (by decide) kcl_X3_61 kini_IllegalStateException ks_103 gat_65 gan_65 gao_65 dX3_certify_42 dX3_certify_45 dX3_certify_46 dX3_certify_48 dX3_certify_51 ht (by decide) (by decide) (by decide) (by decide) (by decide) (Or.inr (Or.inr (Or.inr (Or.inl (⟨h1_0, h6_0, h10_0, h21_0, n32, rfl, rfl, rfl⟩)))))
    · have n32 : ¬ (lc x2.toNatClampNeg) < 2 := (not_congr (nI_lttE rfl (show (2 : Int32) = nI 2 from rfl) (by omega) (by omega))).mp c32
      refine lv_aload_n hx hb dX3_certify_35 rfl (lv_at hl 0 rfl) ?_
      refine gM_callVNi (As := []) (rest := []) C hP hS hl.1 (ct_X1_shareSum l D cy ad hJ x2.toNatClampNeg (lc x2.toNatClampNeg) I L (by omega) (hlc x2.toNatClampNeg (by omega)) (hlc4 x2.toNatClampNeg (by omega))) fa_X1_shareSum kn_m99 ki_X1_shareSum kse_X1_shareSum (by omega) (T := TX1) (kd_P (by omega) _ _) rfl rfl (by decide) (Nat.le_of_ble_eq_true rfl) (by decide) dX3_certify_36 rfl (fun r36 I36 L36 H locs hq hP hS => ?_)
      obtain ⟨rfl, rfl, rfl⟩ := hq
      refine lv_if_eq (tgt := 52) hx hb dX3_certify_39 (by decide) (fun c39 => ?_) (fun c39 => ?_)
      · refine lv_aload_n hx hb dX3_certify_52 rfl (lv_at hl 0 rfl) ?_
        refine lv_iload_n hx hb dX3_certify_53 rfl (lv_at hl 2 rfl) ?_
        refine g_putIN (T := TX1) C hP hS (95 + 4 * x2.toNatClampNeg) 3 (by omega) (kd_P (by omega) _ _) rfl inwX1 tyX1 tyX1_ok nmX1 (by decide) kn_f105 rfl rfl (by decide : 3 < 5) ((kd_P (by omega) _ _).trans (by simp only [sI, va_up_self]; rfl)) dX3_certify_54 (fun H locs hP hS => ?_)
        exact gT_vret C hr hP hS (by decide) (by decide) dX3_certify_57 (⟨h1_0, h6_0, h10_0, h21_0, n32, c39, rfl, rfl⟩)
      · exact g_throwS (cls := xIS) C hlf hP hS hl.1 (by decide) kcl_X3_61 kini_IllegalStateException ks_103 gat_65 gan_65 gao_65 dX3_certify_42 dX3_certify_45 dX3_certify_46 dX3_certify_48 dX3_certify_51 ht (by decide) (by decide) (by decide) (by decide) (by decide) (Or.inr (Or.inr (Or.inr (Or.inr (Or.inl (⟨h1_0, h6_0, h10_0, h21_0, n32, c39, rfl, rfl, rfl⟩))))))
  · refine lv_if_ne (tgt := 42) hx hb dX3_certify_24 (by decide) (fun c => ?_) (fun c => absurd c (by decide))
    exact g_throwS (cls := xIS) C hlf hP hS hl.1 (by decide) kcl_X3_61 kini_IllegalStateException ks_103 gat_65 gan_65 gao_65 dX3_certify_42 dX3_certify_45 dX3_certify_46 dX3_certify_48 dX3_certify_51 ht (by decide) (by decide) (by decide) (by decide) (by decide) (Or.inr (Or.inr (Or.inr (Or.inr (Or.inr (⟨h1_0, h6_0, h10_0, h21_0, rfl, rfl, rfl⟩))))))
def pq_X3_grant (np : Nat) (x1 : Int32) (x2 : Int32) (x3 : Int32) (x4 : Int32) (I : MI) (L : ML) : Int32 → MI → ML → Prop := fun r I' L' => (vp_in x1 8 ∧ vp_in x2 8 ∧ vp_in x3 np ∧ x1 < 2 ∧ ¬ x1.toNatClampNeg = x2.toNatClampNeg ∧ (I (98 + 4 * x3.toNatClampNeg) x2.toNatClampNeg) = x4 ∧ (0 : Int32) = r ∧ (sI I (98 + 4 * x3.toNatClampNeg) x2.toNatClampNeg x4) = I' ∧ L = L') ∨ (vp_in x1 8 ∧ vp_in x2 8 ∧ vp_in x3 np ∧ x1 < 2 ∧ ¬ x1.toNatClampNeg = x2.toNatClampNeg ∧ ¬ (I (98 + 4 * x3.toNatClampNeg) x2.toNatClampNeg) = x4 ∧ (1 : Int32) = r ∧ (sI I (98 + 4 * x3.toNatClampNeg) x2.toNatClampNeg x4) = I' ∧ L = L')
def px_X3_grant (np : Nat) (x1 : Int32) (x2 : Int32) (x3 : Int32) (x4 : Int32) (I : MI) (L : ML) : String → MI → ML → Prop := fun E I' L' => (¬ vp_in x1 8 ∧ xIO = E ∧ I = I' ∧ L = L') ∨ (vp_in x1 8 ∧ ¬ vp_in x2 8 ∧ xIO = E ∧ I = I' ∧ L = L') ∨ (vp_in x1 8 ∧ vp_in x2 8 ∧ ¬ vp_in x3 np ∧ xIO = E ∧ I = I' ∧ L = L') ∨ (vp_in x1 8 ∧ vp_in x2 8 ∧ vp_in x3 np ∧ ¬ x1 < 2 ∧ xUO = E ∧ I = I' ∧ L = L') ∨ (vp_in x1 8 ∧ vp_in x2 8 ∧ vp_in x3 np ∧ x1 < 2 ∧ x1.toNatClampNeg = x2.toNatClampNeg ∧ xUO = E ∧ I = I' ∧ L = L')
set_option maxRecDepth 100000 in
set_option maxHeartbeats 4000000 in
theorem ct_X3_grant (l : Launch) (D : va_G) (cy : Nat → ClassId) (ad : Nat → Nat) (hJ : gJ ad) (hlf : l.stackTraces = false) (np : Nat) (x1 : Int32) (x2 : Int32) (x3 : Int32) (x4 : Int32) (I : MI) (L : ML) (hnp : I 0 3 = nI np) (hnp10 : np ≤ 10) (hb4 : x4 = 0 ∨ x4 = 1) : gTi l D cy ad yX3_grant cX3_grant 7 .boolean (gR 1 5 30) [.ref (ad 0), .int x1, .int x2, .int x3, .int x4] I L (pq_X3_grant np x1 x2 x3 x4 I L) (px_X3_grant np x1 x2 x3 x4 I L) := by
  refine gTi_of hJ (by decide +kernel) kc_X3_grant (Nat.le_of_ble_eq_true rfl) (fun p e s m below meth c A ls C hr ht hP hS hl => ?_)
  have hx := C.hx
  have hb := C.hb
  have hl : lv_has ls 7 [(0, .ref (ad 0)), (1, .int x1), (2, .int x2), (3, .int x3), (4, .int x4)] := hl
  refine lv_iload_n hx hb dX3_grant_0 rfl (lv_at hl 1 rfl) ?_
  refine gT_callSv (As := [.int x1]) (rest := []) C hP hS hl.1 (ct_X3_requireUser l D cy ad hJ hlf x1 I L) fa_X3_requireUser kl_X3_93 kst_X3_requireUser rfl (by decide) (Nat.le_of_ble_eq_true rfl) (by decide) (ht) (by decide) (fun E9 I9 L9 hx9 => Or.inl (hx9)) dX3_grant_1 rfl (fun I1 L1 H locs hq hP hS => ?_)
  obtain ⟨h1_0, rfl, rfl⟩ := hq
  obtain ⟨e1_0, l1_0⟩ := vp_ix h1_0
  refine lv_iload_n hx hb dX3_grant_4 rfl (lv_at hl 2 rfl) ?_
  refine gT_callSv (As := [.int x2]) (rest := []) C hP hS hl.1 (ct_X3_requireUser l D cy ad hJ hlf x2 I L) fa_X3_requireUser kl_X3_93 kst_X3_requireUser rfl (by decide) (Nat.le_of_ble_eq_true rfl) (by decide) (ht) (by decide) (fun E9 I9 L9 hx9 => Or.inr (Or.inl (⟨h1_0, hx9⟩))) dX3_grant_5 rfl (fun I5 L5 H locs hq hP hS => ?_)
  obtain ⟨h5_0, rfl, rfl⟩ := hq
  obtain ⟨e5_0, l5_0⟩ := vp_ix h5_0
  refine lv_aload_n hx hb dX3_grant_8 rfl (lv_at hl 0 rfl) ?_
  refine lv_iload_n hx hb dX3_grant_9 rfl (lv_at hl 3 rfl) ?_
  refine gT_callVv (As := [.int x3]) (rest := []) C hP hS hl.1 (ct_X3_requireProcedure l D cy ad hJ hlf np x3 I L hnp hnp10) fa_X3_requireProcedure kl_X3_72 ki_X3_requireProcedure kse_X3_requireProcedure (by decide) (T := TX3) rfl rfl rfl (by decide) (Nat.le_of_ble_eq_true rfl) (by decide) (ht) (by decide) (fun E9 I9 L9 hx9 => Or.inr (Or.inr (Or.inl (⟨h1_0, h5_0, hx9⟩)))) dX3_grant_10 rfl (fun I10 L10 H locs hq hP hS => ?_)
  obtain ⟨h10_0, rfl, rfl⟩ := hq
  obtain ⟨e10_0, l10_0⟩ := vp_ix h10_0
  refine lv_iload_n hx hb dX3_grant_13 rfl (lv_at hl 1 rfl) ?_
  refine gT_callSv (As := [.int x1]) (rest := []) C hP hS hl.1 (ct_X3_requireOfficer l D cy ad hJ hlf x1 I L) fa_X3_requireOfficer kl_X3_96 kst_X3_requireOfficer rfl (by decide) (Nat.le_of_ble_eq_true rfl) (by decide) (ht) (by decide) (fun E9 I9 L9 hx9 => Or.inr (Or.inr (Or.inr (Or.inl (⟨h1_0, h5_0, h10_0, hx9⟩))))) dX3_grant_14 rfl (fun I14 L14 H locs hq hP hS => ?_)
  obtain ⟨h14_0, rfl, rfl⟩ := hq
  refine lv_iload_n hx hb dX3_grant_17 rfl (lv_at hl 1 rfl) ?_
  refine lv_iload_n hx hb dX3_grant_18 rfl (lv_at hl 2 rfl) ?_
  refine lv_icmp_ne (tgt := 32) hx hb dX3_grant_19 (by decide) (fun c19 => ?_) (fun c19 => ?_)
  · have n19 : ¬ x1.toNatClampNeg = x2.toNatClampNeg := (not_congr (nI_eqqE e1_0 e5_0 (by omega) (by omega))).mp c19
    refine lv_aload_n hx hb dX3_grant_32 rfl (lv_at hl 0 rfl) ?_
    refine g_get (v := .ref (ad 3)) (T := TX3) C hP 0 2 (by decide) rfl rfl inwX3 (by decide) kf_X3_18 rfl dX3_grant_33 ?_
    refine lv_iload_n hx hb dX3_grant_36 rfl (lv_at hl 3 rfl) ?_
    refine g_aldP C hP x3.toNatClampNeg e10_0 (by omega) dX3_grant_37 ?_
    refine lv_astore (lv' := [(5, .ref (ad (95 + 4 * x3.toNatClampNeg))), (0, .ref (ad 0)), (1, .int x1), (2, .int x2), (3, .int x3), (4, .int x4)]) hx hb dX3_grant_38 hl (by decide) rfl (fun ls hl => ?_)
    refine lv_aload hx hb dX3_grant_40 (lv_at hl 0 rfl) ?_
    refine g_getN (v := .ref (ad (98 + 4 * x3.toNatClampNeg))) (T := TX1) C hP (95 + 4 * x3.toNatClampNeg) 4 (by omega) (kd_P (by omega) _ _) rfl inwX1 (by decide) kn_f113 rfl dX3_grant_42 ?_
    refine lv_iload_n hx hb dX3_grant_45 rfl (lv_at hl 3 rfl) ?_
    refine g_zald (v := I (98 + 4 * x3.toNatClampNeg) x2.toNatClampNeg) C hP (98 + 4 * x3.toNatClampNeg) 8 (by omega) (kd_PG (by omega)) x2.toNatClampNeg e5_0 rfl (by omega) (by decide) dX3_grant_46 ?_
    refine lv_iload hx hb dX3_grant_47 (lv_at hl 5 rfl) ?_
    refine lv_icmp_eq (tgt := 56) hx hb dX3_grant_49 (by decide) (fun c49 => ?_) (fun c49 => ?_)
    · refine lv_iconst (v := 0) hx hb dX3_grant_56 (by decide) ?_
      refine lv_istore (lv' := [(6, .int 0), (5, .ref (ad (95 + 4 * x3.toNatClampNeg))), (0, .ref (ad 0)), (1, .int x1), (2, .int x2), (3, .int x3), (4, .int x4)]) hx hb dX3_grant_57 hl (by decide) rfl (fun ls hl => ?_)
      refine lv_aload hx hb dX3_grant_59 (lv_at hl 1 rfl) ?_
      refine g_getN (v := .ref (ad (98 + 4 * x3.toNatClampNeg))) (T := TX1) C hP (95 + 4 * x3.toNatClampNeg) 4 (by omega) (kd_P (by omega) _ _) rfl inwX1 (by decide) kn_f113 rfl dX3_grant_61 ?_
      refine lv_iload_n hx hb dX3_grant_64 rfl (lv_at hl 4 rfl) ?_
      refine lv_iload hx hb dX3_grant_65 (lv_at hl 6 rfl) ?_
      refine g_zast C hP hS (98 + 4 * x3.toNatClampNeg) 8 (by omega) (kd_PG (by omega)) (gb_nar hb4) x2.toNatClampNeg e5_0 (by omega) (by decide) dX3_grant_67 (fun H locs hP hS => ?_)
      refine lv_iload hx hb dX3_grant_68 (lv_at hl 0 rfl) ?_
      exact gT_zret C hr narrow_b0 hP hS (by decide) (by decide) dX3_grant_70 (Or.inl (⟨h1_0, h5_0, h10_0, h14_0, n19, c49, rfl, rfl, rfl⟩))
    · refine lv_iconst (v := 1) hx hb dX3_grant_52 (by decide) ?_
      refine lv_goto (tgt := 57) hx hb dX3_grant_53 (by decide) ?_
      refine lv_istore (lv' := [(6, .int 1), (5, .ref (ad (95 + 4 * x3.toNatClampNeg))), (0, .ref (ad 0)), (1, .int x1), (2, .int x2), (3, .int x3), (4, .int x4)]) hx hb dX3_grant_57 hl (by decide) rfl (fun ls hl => ?_)
      refine lv_aload hx hb dX3_grant_59 (lv_at hl 1 rfl) ?_
      refine g_getN (v := .ref (ad (98 + 4 * x3.toNatClampNeg))) (T := TX1) C hP (95 + 4 * x3.toNatClampNeg) 4 (by omega) (kd_P (by omega) _ _) rfl inwX1 (by decide) kn_f113 rfl dX3_grant_61 ?_
      refine lv_iload_n hx hb dX3_grant_64 rfl (lv_at hl 4 rfl) ?_
      refine lv_iload hx hb dX3_grant_65 (lv_at hl 6 rfl) ?_
      refine g_zast C hP hS (98 + 4 * x3.toNatClampNeg) 8 (by omega) (kd_PG (by omega)) (gb_nar hb4) x2.toNatClampNeg e5_0 (by omega) (by decide) dX3_grant_67 (fun H locs hP hS => ?_)
      refine lv_iload hx hb dX3_grant_68 (lv_at hl 0 rfl) ?_
      exact gT_zret C hr narrow_b1 hP hS (by decide) (by decide) dX3_grant_70 (Or.inr (⟨h1_0, h5_0, h10_0, h14_0, n19, c49, rfl, rfl, rfl⟩))
  · have n19 : x1.toNatClampNeg = x2.toNatClampNeg := (nI_eqqE e1_0 e5_0 (by omega) (by omega)).mp c19
    exact g_throwS (cls := xUO) C hlf hP hS hl.1 (by decide) kcl_X3_108 kini_UnsupportedOperationException ks_110 gat_112 gan_112 gao_112 dX3_grant_22 dX3_grant_25 dX3_grant_26 dX3_grant_28 dX3_grant_31 ht (by decide) (by decide) (by decide) (by decide) (by decide) (Or.inr (Or.inr (Or.inr (Or.inr (⟨h1_0, h5_0, h10_0, h14_0, n19, rfl, rfl, rfl⟩)))))
def pq_X3_floor (x1 : Int32) (x2 : Int32) (x3 : Int64) (I : MI) (L : ML) : Int64 → MI → ML → Prop := fun r I' L' => (vp_in x1 8 ∧ vp_in x2 8 ∧ x1 < 2 ∧ ¬ x3 < (-1000000000000) ∧ x3 ≤ 1000000000000 ∧ L 2 x2.toNatClampNeg = r ∧ I = I' ∧ (sL L 2 x2.toNatClampNeg x3) = L')
def px_X3_floor (x1 : Int32) (x2 : Int32) (x3 : Int64) (I : MI) (L : ML) : String → MI → ML → Prop := fun E I' L' => (¬ vp_in x1 8 ∧ xIO = E ∧ I = I' ∧ L = L') ∨ (vp_in x1 8 ∧ ¬ vp_in x2 8 ∧ xIO = E ∧ I = I' ∧ L = L') ∨ (vp_in x1 8 ∧ vp_in x2 8 ∧ ¬ x1 < 2 ∧ xUO = E ∧ I = I' ∧ L = L') ∨ (vp_in x1 8 ∧ vp_in x2 8 ∧ x1 < 2 ∧ x3 < (-1000000000000) ∧ xIA = E ∧ I = I' ∧ L = L') ∨ (vp_in x1 8 ∧ vp_in x2 8 ∧ x1 < 2 ∧ ¬ x3 < (-1000000000000) ∧ ¬ x3 ≤ 1000000000000 ∧ xIA = E ∧ I = I' ∧ L = L')
set_option maxRecDepth 100000 in
set_option maxHeartbeats 4000000 in
theorem ct_X3_floor (l : Launch) (D : va_G) (cy : Nat → ClassId) (ad : Nat → Nat) (hJ : gJ ad) (hlf : l.stackTraces = false) (x1 : Int32) (x2 : Int32) (x3 : Int64) (I : MI) (L : ML) : gTl l D cy ad yX3_floor cX3_floor 7 .long (gR 1 4 24) [.ref (ad 0), .int x1, .int x2, .long x3] I L (pq_X3_floor x1 x2 x3 I L) (px_X3_floor x1 x2 x3 I L) := by
  refine gTl_of hJ (by decide +kernel) kc_X3_floor (Nat.le_of_ble_eq_true rfl) (fun p e s m below meth c A ls C hr ht hP hS hl => ?_)
  have hx := C.hx
  have hb := C.hb
  have hl : lv_has ls 7 [(0, .ref (ad 0)), (1, .int x1), (2, .int x2), (3, .long x3)] := hl
  refine lv_iload_n hx hb dX3_floor_0 rfl (lv_at hl 1 rfl) ?_
  refine gT_callSv (As := [.int x1]) (rest := []) C hP hS hl.1 (ct_X3_requireUser l D cy ad hJ hlf x1 I L) fa_X3_requireUser kl_X3_93 kst_X3_requireUser rfl (by decide) (Nat.le_of_ble_eq_true rfl) (by decide) (ht) (by decide) (fun E9 I9 L9 hx9 => Or.inl (hx9)) dX3_floor_1 rfl (fun I1 L1 H locs hq hP hS => ?_)
  obtain ⟨h1_0, rfl, rfl⟩ := hq
  obtain ⟨e1_0, l1_0⟩ := vp_ix h1_0
  refine lv_iload_n hx hb dX3_floor_4 rfl (lv_at hl 2 rfl) ?_
  refine gT_callSv (As := [.int x2]) (rest := []) C hP hS hl.1 (ct_X3_requireAccount l D cy ad hJ hlf x2 I L) fa_X3_requireAccount kl_X3_54 kst_X3_requireAccount rfl (by decide) (Nat.le_of_ble_eq_true rfl) (by decide) (ht) (by decide) (fun E9 I9 L9 hx9 => Or.inr (Or.inl (⟨h1_0, hx9⟩))) dX3_floor_5 rfl (fun I5 L5 H locs hq hP hS => ?_)
  obtain ⟨h5_0, rfl, rfl⟩ := hq
  obtain ⟨e5_0, l5_0⟩ := vp_ix h5_0
  refine lv_iload_n hx hb dX3_floor_8 rfl (lv_at hl 1 rfl) ?_
  refine gT_callSv (As := [.int x1]) (rest := []) C hP hS hl.1 (ct_X3_requireOfficer l D cy ad hJ hlf x1 I L) fa_X3_requireOfficer kl_X3_96 kst_X3_requireOfficer rfl (by decide) (Nat.le_of_ble_eq_true rfl) (by decide) (ht) (by decide) (fun E9 I9 L9 hx9 => Or.inr (Or.inr (Or.inl (⟨h1_0, h5_0, hx9⟩)))) dX3_floor_9 rfl (fun I9 L9 H locs hq hP hS => ?_)
  obtain ⟨h9_0, rfl, rfl⟩ := hq
  refine lv_lload_n hx hb dX3_floor_12 rfl (lv_at hl 3 rfl) ?_
  refine gM_callSi (As := [.long x3]) (rest := []) C hP hS hl.1 (ct_X3_isBeyondLimit l D cy ad hJ x3 I L) fa_X3_isBeyondLimit kl_X3_117 kst_X3_isBeyondLimit rfl (by decide) (Nat.le_of_ble_eq_true rfl) (by decide) dX3_floor_13 rfl (fun r13 I13 L13 H locs hq hP hS => ?_)
  rcases hq with ⟨h13_0, rfl, rfl, rfl⟩ | ⟨h13_0, h13_1, rfl, rfl, rfl⟩ | ⟨h13_0, h13_1, rfl, rfl, rfl⟩
  · refine lv_if_eq (tgt := 29) hx hb dX3_floor_16 (by decide) (fun c => absurd c (by decide)) (fun c => ?_)
    exact g_throwS (cls := xIA) C hlf hP hS hl.1 (by decide) kcl_X3_79 kini_IllegalArgumentException ks_121 gat_83 gan_83 gao_83 dX3_floor_19 dX3_floor_22 dX3_floor_23 dX3_floor_25 dX3_floor_28 ht (by decide) (by decide) (by decide) (by decide) (by decide) (Or.inr (Or.inr (Or.inr (Or.inl (⟨h1_0, h5_0, h9_0, h13_0, rfl, rfl, rfl⟩)))))
  · refine lv_if_eq (tgt := 29) hx hb dX3_floor_16 (by decide) (fun c => ?_) (fun c => absurd c (by decide))
    refine lv_aload_n hx hb dX3_floor_29 rfl (lv_at hl 0 rfl) ?_
    refine g_get (v := .ref (ad 2)) (T := TX3) C hP 0 1 (by decide) rfl rfl inwX3 (by decide) kf_X3_13 rfl dX3_floor_30 ?_
    refine lv_iload_n hx hb dX3_floor_33 rfl (lv_at hl 2 rfl) ?_
    refine g_lald (v := L 2 x2.toNatClampNeg) C hP 2 8 (by decide) (fun _ _ => rfl) x2.toNatClampNeg e5_0 rfl (by omega) (by decide) dX3_floor_34 ?_
    refine lv_lstore (lv' := [(5, .long (L 2 x2.toNatClampNeg)), (0, .ref (ad 0)), (1, .int x1), (2, .int x2), (3, .long x3)]) hx hb dX3_floor_35 hl (by decide) rfl (fun ls hl => ?_)
    refine lv_aload_n hx hb dX3_floor_37 rfl (lv_at hl 1 rfl) ?_
    refine g_get (v := .ref (ad 2)) (T := TX3) C hP 0 1 (by decide) rfl rfl inwX3 (by decide) kf_X3_13 rfl dX3_floor_38 ?_
    refine lv_iload_n hx hb dX3_floor_41 rfl (lv_at hl 3 rfl) ?_
    refine lv_lload_n hx hb dX3_floor_42 rfl (lv_at hl 4 rfl) ?_
    refine g_last C hP hS 2 8 (by decide) (fun _ _ => rfl) x2.toNatClampNeg e5_0 (by omega) (by decide) dX3_floor_43 (fun H locs hP hS => ?_)
    refine lv_lload hx hb dX3_floor_44 (lv_at hl 0 rfl) ?_
    exact gT_lret C hr hP hS (by decide) (by decide) dX3_floor_46 (⟨h1_0, h5_0, h9_0, h13_0, h13_1, rfl, rfl, rfl⟩)
  · refine lv_if_eq (tgt := 29) hx hb dX3_floor_16 (by decide) (fun c => absurd c (by decide)) (fun c => ?_)
    exact g_throwS (cls := xIA) C hlf hP hS hl.1 (by decide) kcl_X3_79 kini_IllegalArgumentException ks_121 gat_83 gan_83 gao_83 dX3_floor_19 dX3_floor_22 dX3_floor_23 dX3_floor_25 dX3_floor_28 ht (by decide) (by decide) (by decide) (by decide) (by decide) (Or.inr (Or.inr (Or.inr (Or.inr (⟨h1_0, h5_0, h9_0, h13_0, h13_1, rfl, rfl, rfl⟩)))))
def pq_X3_ask (np : Nat) (ne : Nat) (lc : Nat → Nat) (x1 : Int32) (x2 : Int32) (x3 : Int64) (I : MI) (L : ML) : Int32 → MI → ML → Prop := fun r I' L' => (vp_in x1 8 ∧ vp_in x2 np ∧ gMR np I x1 x2 ∧ ¬ x3 < 1 ∧ x3 ≤ 100000000000 ∧ (gcn (L 1) (L (54 + ne)) 8) = 0 ∧ ne < 40 ∧ x3 ≤ 10000 ∧ (∀ k, k < (lc x2.toNatClampNeg) → ¬ gfl (I (96 + 4 * x2.toNatClampNeg)) ((gPW L x3 (I (97 + 4 * x2.toNatClampNeg)) (lc x2.toNatClampNeg) (-1)) 1) ((gPW L x3 (I (97 + 4 * x2.toNatClampNeg)) (lc x2.toNatClampNeg) (-1)) 2) ((gPW L x3 (I (97 + 4 * x2.toNatClampNeg)) (lc x2.toNatClampNeg) (-1)) 7) k) ∧ nI ne = r ∧ (sI (sI (sI (sI (sI I (14 + ne) 0 x2) (14 + ne) 2 x1) (14 + ne) 3 (-1)) (14 + ne) 4 (-1)) 0 6 (nI ne + 1)) = I' ∧ (sL (gRL (gcp (gPW L x3 (I (97 + 4 * x2.toNatClampNeg)) (lc x2.toNatClampNeg) (-1)) ne) (I (96 + 4 * x2.toNatClampNeg)) (54 + (ne + 1)) (lc x2.toNatClampNeg)) (14 + ne) 1 x3) = L') ∨ (vp_in x1 8 ∧ vp_in x2 np ∧ gMR np I x1 x2 ∧ ¬ x3 < 1 ∧ x3 ≤ 100000000000 ∧ (gcn (L 1) (L (54 + ne)) 8) = 0 ∧ ne < 40 ∧ ¬ x3 ≤ 10000 ∧ gfq (fun k => I (8 + k) 0) < 6 ∧ 100 + (nI (gfq (fun k => I (8 + k) 0))) = r ∧ (sI (sI I (8 + (gfq (fun k => I (8 + k) 0))) 0 x1) (8 + (gfq (fun k => I (8 + k) 0))) 1 x2) = I' ∧ (sL L (8 + (gfq (fun k => I (8 + k) 0))) 2 x3) = L')
def px_X3_ask (np : Nat) (ne : Nat) (lc : Nat → Nat) (x1 : Int32) (x2 : Int32) (x3 : Int64) (I : MI) (L : ML) : String → MI → ML → Prop := fun E I' L' => (¬ vp_in x1 8 ∧ xIO = E ∧ I = I' ∧ L = L') ∨ (vp_in x1 8 ∧ ¬ vp_in x2 np ∧ xIO = E ∧ I = I' ∧ L = L') ∨ (vp_in x1 8 ∧ vp_in x2 np ∧ ¬ gMR np I x1 x2 ∧ xUO = E ∧ I = I' ∧ L = L') ∨ (vp_in x1 8 ∧ vp_in x2 np ∧ gMR np I x1 x2 ∧ x3 < 1 ∧ xIA = E ∧ I = I' ∧ L = L') ∨ (vp_in x1 8 ∧ vp_in x2 np ∧ gMR np I x1 x2 ∧ ¬ x3 < 1 ∧ x3 ≤ 100000000000 ∧ (gcn (L 1) (L (54 + ne)) 8) = 0 ∧ ¬ ne < 40 ∧ xIS = E ∧ I = I' ∧ L = L') ∨ (vp_in x1 8 ∧ vp_in x2 np ∧ gMR np I x1 x2 ∧ ¬ x3 < 1 ∧ x3 ≤ 100000000000 ∧ ¬ (gcn (L 1) (L (54 + ne)) 8) = 0 ∧ xIS = E ∧ I = I' ∧ L = L') ∨ (vp_in x1 8 ∧ vp_in x2 np ∧ gMR np I x1 x2 ∧ ¬ x3 < 1 ∧ x3 ≤ 100000000000 ∧ (gcn (L 1) (L (54 + ne)) 8) = 0 ∧ ne < 40 ∧ x3 ≤ 10000 ∧ (¬ (∀ k, k < (lc x2.toNatClampNeg) → ¬ gfl (I (96 + 4 * x2.toNatClampNeg)) ((gPW L x3 (I (97 + 4 * x2.toNatClampNeg)) (lc x2.toNatClampNeg) (-1)) 1) ((gPW L x3 (I (97 + 4 * x2.toNatClampNeg)) (lc x2.toNatClampNeg) (-1)) 2) ((gPW L x3 (I (97 + 4 * x2.toNatClampNeg)) (lc x2.toNatClampNeg) (-1)) 7) k)) ∧ xIS = E ∧ I = I' ∧ (gPW L x3 (I (97 + 4 * x2.toNatClampNeg)) (lc x2.toNatClampNeg) (-1)) = L') ∨ (vp_in x1 8 ∧ vp_in x2 np ∧ gMR np I x1 x2 ∧ ¬ x3 < 1 ∧ x3 ≤ 100000000000 ∧ (gcn (L 1) (L (54 + ne)) 8) = 0 ∧ ne < 40 ∧ ¬ x3 ≤ 10000 ∧ ¬ gfq (fun k => I (8 + k) 0) < 6 ∧ xIS = E ∧ I = I' ∧ L = L') ∨ (vp_in x1 8 ∧ vp_in x2 np ∧ gMR np I x1 x2 ∧ ¬ x3 < 1 ∧ ¬ x3 ≤ 100000000000 ∧ xIA = E ∧ I = I' ∧ L = L')
set_option maxRecDepth 100000 in
set_option maxHeartbeats 4000000 in
theorem ct_X3_ask (l : Launch) (D : va_G) (cy : Nat → ClassId) (ad : Nat → Nat) (hJ : gJ ad) (hlf : l.stackTraces = false) (np : Nat) (ne : Nat) (lc : Nat → Nat) (x1 : Int32) (x2 : Int32) (x3 : Int64) (I : MI) (L : ML) (hnp : I 0 3 = nI np) (hnp10 : np ≤ 10) (hne : I 0 6 = nI ne) (hne40 : ne ≤ 40) (hlc : ∀ pp, pp < 10 → I (95 + 4 * pp) 2 = nI (lc pp)) (hlc4 : ∀ pp, pp < 10 → lc pp ≤ 4) (hlc1 : ∀ pp, pp < np → 1 ≤ lc pp) (hac : ∀ pp, pp < 10 → ∀ k, k < lc pp → vp_in (I (96 + 4 * pp) k) 8) : gTi l D cy ad yX3_ask cX3_ask 5 .int (gR 1 5 30) [.ref (ad 0), .int x1, .int x2, .long x3] I L (pq_X3_ask np ne lc x1 x2 x3 I L) (px_X3_ask np ne lc x1 x2 x3 I L) := by
  refine gTi_of hJ (by decide +kernel) kc_X3_ask (Nat.le_of_ble_eq_true rfl) (fun p e s m below meth c A ls C hr ht hP hS hl => ?_)
  have hx := C.hx
  have hb := C.hb
  have hl : lv_has ls 5 [(0, .ref (ad 0)), (1, .int x1), (2, .int x2), (3, .long x3)] := hl
  refine lv_iload_n hx hb dX3_ask_0 rfl (lv_at hl 1 rfl) ?_
  refine gT_callSv (As := [.int x1]) (rest := []) C hP hS hl.1 (ct_X3_requireUser l D cy ad hJ hlf x1 I L) fa_X3_requireUser kl_X3_93 kst_X3_requireUser rfl (by decide) (Nat.le_of_ble_eq_true rfl) (by decide) (ht) (by decide) (fun E9 I9 L9 hx9 => Or.inl (hx9)) dX3_ask_1 rfl (fun I1 L1 H locs hq hP hS => ?_)
  obtain ⟨h1_0, rfl, rfl⟩ := hq
  obtain ⟨e1_0, l1_0⟩ := vp_ix h1_0
  refine lv_aload_n hx hb dX3_ask_4 rfl (lv_at hl 0 rfl) ?_
  refine lv_iload_n hx hb dX3_ask_5 rfl (lv_at hl 2 rfl) ?_
  refine gT_callVv (As := [.int x2]) (rest := []) C hP hS hl.1 (ct_X3_requireProcedure l D cy ad hJ hlf np x2 I L hnp hnp10) fa_X3_requireProcedure kl_X3_72 ki_X3_requireProcedure kse_X3_requireProcedure (by decide) (T := TX3) rfl rfl rfl (by decide) (Nat.le_of_ble_eq_true rfl) (by decide) (ht) (by decide) (fun E9 I9 L9 hx9 => Or.inr (Or.inl (⟨h1_0, hx9⟩))) dX3_ask_6 rfl (fun I6 L6 H locs hq hP hS => ?_)
  obtain ⟨h6_0, rfl, rfl⟩ := hq
  obtain ⟨e6_0, l6_0⟩ := vp_ix h6_0
  refine lv_aload_n hx hb dX3_ask_9 rfl (lv_at hl 0 rfl) ?_
  refine lv_iload_n hx hb dX3_ask_10 rfl (lv_at hl 1 rfl) ?_
  refine lv_iload_n hx hb dX3_ask_11 rfl (lv_at hl 2 rfl) ?_
  refine gT_callVv (As := [.int x1, .int x2]) (rest := []) C hP hS hl.1 (ct_X3_requireMayRun l D cy ad hJ hlf np x1 x2 I L hnp hnp10) fa_X3_requireMayRun kl_X3_123 ki_X3_requireMayRun kse_X3_requireMayRun (by decide) (T := TX3) rfl rfl rfl (by decide) (Nat.le_of_ble_eq_true rfl) (by decide) (ht) (by decide) (fun E9 I9 L9 hx9 => Or.inr (Or.inr (Or.inl (⟨h1_0, h6_0, hx9⟩)))) dX3_ask_12 rfl (fun I12 L12 H locs hq hP hS => ?_)
  obtain ⟨h12_0, rfl, rfl⟩ := hq
  refine lv_lload_n hx hb dX3_ask_15 rfl (lv_at hl 3 rfl) ?_
  refine lv_lconst (v := 1) hx hb dX3_ask_16 (by decide) ?_
  refine W.lcmp hx hb dX3_ask_17 ?_
  refine lv_if_lt (tgt := 29) hx hb dX3_ask_18 (by decide) (fun c18 => ?_) (fun c18 => ?_)
  · have n18 : x3 < 1 := (lg_cmp_lt _ _).mp c18
    exact g_throwS (cls := xIA) C hlf hP hS hl.1 (by decide) kcl_X3_79 kini_IllegalArgumentException ks_128 gat_83 gan_83 gao_83 dX3_ask_29 dX3_ask_32 dX3_ask_33 dX3_ask_35 dX3_ask_38 ht (by decide) (by decide) (by decide) (by decide) (by decide) (Or.inr (Or.inr (Or.inr (Or.inl (⟨h1_0, h6_0, h12_0, n18, rfl, rfl, rfl⟩)))))
  · have n18 : ¬ x3 < 1 := (not_congr (lg_cmp_lt _ _)).mp c18
    refine lv_lload_n hx hb dX3_ask_21 rfl (lv_at hl 3 rfl) ?_
    refine lv_ldc2 (v := 100000000000) hx hb C.hown (C.hts _ kcn_X3_126) dX3_ask_22 ?_
    refine W.lcmp hx hb dX3_ask_25 ?_
    refine lv_if_le (tgt := 39) hx hb dX3_ask_26 (by decide) (fun c26 => ?_) (fun c26 => ?_)
    · have n26 : x3 ≤ 100000000000 := (lg_cmp_le _ _).mp c26
      refine lv_aload_n hx hb dX3_ask_39 rfl (lv_at hl 0 rfl) ?_
      refine gT_callVv (As := []) (rest := []) C hP hS hl.1 (ct_X3_requireBooksTakeRun l D cy ad hJ hlf ne I L hne hne40) fa_X3_requireBooksTakeRun kl_X3_130 ki_X3_requireBooksTakeRun kse_X3_requireBooksTakeRun (by decide) (T := TX3) rfl rfl rfl (by decide) (Nat.le_of_ble_eq_true rfl) (by decide) (ht) (by decide) (fun E9 I9 L9 hx9 => hx9.elim (fun hx9 => Or.inr (Or.inr (Or.inr (Or.inr (Or.inl (⟨h1_0, h6_0, h12_0, n18, n26, hx9⟩)))))) (fun hx9 => Or.inr (Or.inr (Or.inr (Or.inr (Or.inr (Or.inl (⟨h1_0, h6_0, h12_0, n18, n26, hx9⟩)))))))) dX3_ask_40 rfl (fun I40 L40 H locs hq hP hS => ?_)
      obtain ⟨h40_0, h40_1, rfl, rfl⟩ := hq
      refine lv_lload_n hx hb dX3_ask_43 rfl (lv_at hl 3 rfl) ?_
      refine lv_ldc2 (v := 10000) hx hb C.hown (C.hts _ kcn_X3_133) dX3_ask_44 ?_
      refine W.lcmp hx hb dX3_ask_47 ?_
      refine lv_if_le (tgt := 62) hx hb dX3_ask_48 (by decide) (fun c48 => ?_) (fun c48 => ?_)
      · have n48 : x3 ≤ 10000 := (lg_cmp_le _ _).mp c48
        refine lv_aload_n hx hb dX3_ask_62 rfl (lv_at hl 0 rfl) ?_
        refine lv_iload_n hx hb dX3_ask_63 rfl (lv_at hl 2 rfl) ?_
        refine lv_lload_n hx hb dX3_ask_64 rfl (lv_at hl 3 rfl) ?_
        refine lv_iload_n hx hb dX3_ask_65 rfl (lv_at hl 1 rfl) ?_
        refine lv_iconst (v := (-1)) hx hb dX3_ask_66 (by decide) ?_
        refine lv_iconst (v := (-1)) hx hb dX3_ask_67 (by decide) ?_
        refine gT_callVi (As := [.int x2, .long x3, .int x1, .int (-1), .int (-1)]) (rest := []) C hP hS hl.1 (ct_X3_runAndLog l D cy ad hJ hlf x2.toNatClampNeg (lc x2.toNatClampNeg) ne x2 x3 x1 (-1) (-1) I L e6_0 (by omega) (hlc x2.toNatClampNeg (by omega)) (hlc1 x2.toNatClampNeg (by omega)) (hlc4 x2.toNatClampNeg (by omega)) (hac x2.toNatClampNeg (by omega)) hne (by omega)) fa_X3_runAndLog kl_X3_139 ki_X3_runAndLog kse_X3_runAndLog (by decide) (T := TX3) rfl rfl rfl (by decide) (Nat.le_of_ble_eq_true rfl) (by decide) (ht) (by decide) (fun E9 I9 L9 hx9 => Or.inr (Or.inr (Or.inr (Or.inr (Or.inr (Or.inr (Or.inl (⟨h1_0, h6_0, h12_0, n18, n26, h40_0, h40_1, n48, hx9⟩)))))))) dX3_ask_68 rfl (fun r68 I68 L68 H locs hq hP hS => ?_)
        obtain ⟨h68_0, rfl, rfl, rfl⟩ := hq
        exact gT_iret C hr hP hS (by decide) (by decide) dX3_ask_71 (Or.inl (⟨h1_0, h6_0, h12_0, n18, n26, h40_0, h40_1, n48, h68_0, rfl, rfl, rfl⟩))
      · have n48 : ¬ x3 ≤ 10000 := (not_congr (lg_cmp_le _ _)).mp c48
        refine lv_bipush (v := 100) hx hb dX3_ask_51 (by decide) ?_
        refine lv_aload_n hx hb dX3_ask_53 rfl (lv_at hl 0 rfl) ?_
        refine lv_iload_n hx hb dX3_ask_54 rfl (lv_at hl 1 rfl) ?_
        refine lv_iload_n hx hb dX3_ask_55 rfl (lv_at hl 2 rfl) ?_
        refine lv_lload_n hx hb dX3_ask_56 rfl (lv_at hl 3 rfl) ?_
        refine gT_callVi (As := [.int x1, .int x2, .long x3]) (rest := [.int 100]) C hP hS hl.1 (ct_X3_fileRequest l D cy ad hJ hlf x1 x2 x3 I L) fa_X3_fileRequest kl_X3_135 ki_X3_fileRequest kse_X3_fileRequest (by decide) (T := TX3) rfl rfl rfl (by decide) (Nat.le_of_ble_eq_true rfl) (by decide) (ht) (by decide) (fun E9 I9 L9 hx9 => Or.inr (Or.inr (Or.inr (Or.inr (Or.inr (Or.inr (Or.inr (Or.inl (⟨h1_0, h6_0, h12_0, n18, n26, h40_0, h40_1, n48, hx9⟩))))))))) dX3_ask_57 rfl (fun r57 I57 L57 H locs hq hP hS => ?_)
        obtain ⟨h57_0, rfl, rfl, rfl⟩ := hq
        refine lv_iadd hx hb dX3_ask_60 ?_
        exact gT_iret C hr hP hS (by decide) (by decide) dX3_ask_61 (Or.inr (⟨h1_0, h6_0, h12_0, n18, n26, h40_0, h40_1, n48, h57_0, rfl, rfl, rfl⟩))
    · have n26 : ¬ x3 ≤ 100000000000 := (not_congr (lg_cmp_le _ _)).mp c26
      exact g_throwS (cls := xIA) C hlf hP hS hl.1 (by decide) kcl_X3_79 kini_IllegalArgumentException ks_128 gat_83 gan_83 gao_83 dX3_ask_29 dX3_ask_32 dX3_ask_33 dX3_ask_35 dX3_ask_38 ht (by decide) (by decide) (by decide) (by decide) (by decide) (Or.inr (Or.inr (Or.inr (Or.inr (Or.inr (Or.inr (Or.inr (Or.inr (⟨h1_0, h6_0, h12_0, n18, n26, rfl, rfl, rfl⟩)))))))))
def pq_X3_approve (np : Nat) (ne : Nat) (lc : Nat → Nat) (x1 : Int32) (x2 : Int32) (I : MI) (L : ML) : Int32 → MI → ML → Prop := fun r I' L' => (vp_in x1 8 ∧ (vp_in x2 6 ∧ ¬ I (8 + x2.toNatClampNeg) 0 = -1) ∧ (gMR np I x1 (I (8 + x2.toNatClampNeg) 1) ∧ ¬ I (8 + x2.toNatClampNeg) 0 = x1) ∧ gMR np I (I (8 + x2.toNatClampNeg) 0) (I (8 + x2.toNatClampNeg) 1) ∧ (gcn (L 1) (L (54 + ne)) 8) = 0 ∧ ne < 40 ∧ (∀ k, k < (lc ((I (8 + x2.toNatClampNeg) 1).toNatClampNeg)) → ¬ gfl (I (96 + 4 * ((I (8 + x2.toNatClampNeg) 1).toNatClampNeg))) ((gPW L (L (8 + x2.toNatClampNeg) 2) (I (97 + 4 * ((I (8 + x2.toNatClampNeg) 1).toNatClampNeg))) (lc ((I (8 + x2.toNatClampNeg) 1).toNatClampNeg)) (-1)) 1) ((gPW L (L (8 + x2.toNatClampNeg) 2) (I (97 + 4 * ((I (8 + x2.toNatClampNeg) 1).toNatClampNeg))) (lc ((I (8 + x2.toNatClampNeg) 1).toNatClampNeg)) (-1)) 2) ((gPW L (L (8 + x2.toNatClampNeg) 2) (I (97 + 4 * ((I (8 + x2.toNatClampNeg) 1).toNatClampNeg))) (lc ((I (8 + x2.toNatClampNeg) 1).toNatClampNeg)) (-1)) 7) k) ∧ nI ne = r ∧ (sI (sI (sI (sI (sI (sI I (14 + ne) 0 (I (8 + x2.toNatClampNeg) 1)) (14 + ne) 2 (I (8 + x2.toNatClampNeg) 0)) (14 + ne) 3 x1) (14 + ne) 4 (-1)) 0 6 (nI ne + 1)) (8 + x2.toNatClampNeg) 0 (-1)) = I' ∧ (sL (gRL (gcp (gPW L (L (8 + x2.toNatClampNeg) 2) (I (97 + 4 * ((I (8 + x2.toNatClampNeg) 1).toNatClampNeg))) (lc ((I (8 + x2.toNatClampNeg) 1).toNatClampNeg)) (-1)) ne) (I (96 + 4 * ((I (8 + x2.toNatClampNeg) 1).toNatClampNeg))) (54 + (ne + 1)) (lc ((I (8 + x2.toNatClampNeg) 1).toNatClampNeg))) (14 + ne) 1 (L (8 + x2.toNatClampNeg) 2)) = L')
def px_X3_approve (np : Nat) (ne : Nat) (lc : Nat → Nat) (x1 : Int32) (x2 : Int32) (I : MI) (L : ML) : String → MI → ML → Prop := fun E I' L' => (¬ vp_in x1 8 ∧ xIO = E ∧ I = I' ∧ L = L') ∨ (vp_in x1 8 ∧ (¬ (vp_in x2 6 ∧ ¬ I (8 + x2.toNatClampNeg) 0 = -1)) ∧ xIO = E ∧ I = I' ∧ L = L') ∨ (vp_in x1 8 ∧ (vp_in x2 6 ∧ ¬ I (8 + x2.toNatClampNeg) 0 = -1) ∧ (gMR np I x1 (I (8 + x2.toNatClampNeg) 1) ∧ ¬ I (8 + x2.toNatClampNeg) 0 = x1) ∧ ¬ gMR np I (I (8 + x2.toNatClampNeg) 0) (I (8 + x2.toNatClampNeg) 1) ∧ xUO = E ∧ I = I' ∧ L = L') ∨ (vp_in x1 8 ∧ (vp_in x2 6 ∧ ¬ I (8 + x2.toNatClampNeg) 0 = -1) ∧ (gMR np I x1 (I (8 + x2.toNatClampNeg) 1) ∧ ¬ I (8 + x2.toNatClampNeg) 0 = x1) ∧ gMR np I (I (8 + x2.toNatClampNeg) 0) (I (8 + x2.toNatClampNeg) 1) ∧ (gcn (L 1) (L (54 + ne)) 8) = 0 ∧ ¬ ne < 40 ∧ xIS = E ∧ I = I' ∧ L = L') ∨ (vp_in x1 8 ∧ (vp_in x2 6 ∧ ¬ I (8 + x2.toNatClampNeg) 0 = -1) ∧ (gMR np I x1 (I (8 + x2.toNatClampNeg) 1) ∧ ¬ I (8 + x2.toNatClampNeg) 0 = x1) ∧ gMR np I (I (8 + x2.toNatClampNeg) 0) (I (8 + x2.toNatClampNeg) 1) ∧ ¬ (gcn (L 1) (L (54 + ne)) 8) = 0 ∧ xIS = E ∧ I = I' ∧ L = L') ∨ (vp_in x1 8 ∧ (vp_in x2 6 ∧ ¬ I (8 + x2.toNatClampNeg) 0 = -1) ∧ (gMR np I x1 (I (8 + x2.toNatClampNeg) 1) ∧ ¬ I (8 + x2.toNatClampNeg) 0 = x1) ∧ gMR np I (I (8 + x2.toNatClampNeg) 0) (I (8 + x2.toNatClampNeg) 1) ∧ (gcn (L 1) (L (54 + ne)) 8) = 0 ∧ ne < 40 ∧ (¬ (∀ k, k < (lc ((I (8 + x2.toNatClampNeg) 1).toNatClampNeg)) → ¬ gfl (I (96 + 4 * ((I (8 + x2.toNatClampNeg) 1).toNatClampNeg))) ((gPW L (L (8 + x2.toNatClampNeg) 2) (I (97 + 4 * ((I (8 + x2.toNatClampNeg) 1).toNatClampNeg))) (lc ((I (8 + x2.toNatClampNeg) 1).toNatClampNeg)) (-1)) 1) ((gPW L (L (8 + x2.toNatClampNeg) 2) (I (97 + 4 * ((I (8 + x2.toNatClampNeg) 1).toNatClampNeg))) (lc ((I (8 + x2.toNatClampNeg) 1).toNatClampNeg)) (-1)) 2) ((gPW L (L (8 + x2.toNatClampNeg) 2) (I (97 + 4 * ((I (8 + x2.toNatClampNeg) 1).toNatClampNeg))) (lc ((I (8 + x2.toNatClampNeg) 1).toNatClampNeg)) (-1)) 7) k)) ∧ xIS = E ∧ I = I' ∧ (gPW L (L (8 + x2.toNatClampNeg) 2) (I (97 + 4 * ((I (8 + x2.toNatClampNeg) 1).toNatClampNeg))) (lc ((I (8 + x2.toNatClampNeg) 1).toNatClampNeg)) (-1)) = L') ∨ (vp_in x1 8 ∧ (vp_in x2 6 ∧ ¬ I (8 + x2.toNatClampNeg) 0 = -1) ∧ (¬ (gMR np I x1 (I (8 + x2.toNatClampNeg) 1) ∧ ¬ I (8 + x2.toNatClampNeg) 0 = x1)) ∧ xUO = E ∧ I = I' ∧ L = L')
set_option maxRecDepth 100000 in
set_option maxHeartbeats 4000000 in
theorem ct_X3_approve (l : Launch) (D : va_G) (cy : Nat → ClassId) (ad : Nat → Nat) (hJ : gJ ad) (hlf : l.stackTraces = false) (np : Nat) (ne : Nat) (lc : Nat → Nat) (x1 : Int32) (x2 : Int32) (I : MI) (L : ML) (hnp : I 0 3 = nI np) (hnp10 : np ≤ 10) (hne : I 0 6 = nI ne) (hne40 : ne ≤ 40) (hlc : ∀ pp, pp < 10 → I (95 + 4 * pp) 2 = nI (lc pp)) (hlc4 : ∀ pp, pp < 10 → lc pp ≤ 4) (hlc1 : ∀ pp, pp < np → 1 ≤ lc pp) (hac : ∀ pp, pp < 10 → ∀ k, k < lc pp → vp_in (I (96 + 4 * pp) k) 8) : gTi l D cy ad yX3_approve cX3_approve 5 .int (gR 1 5 30) [.ref (ad 0), .int x1, .int x2] I L (pq_X3_approve np ne lc x1 x2 I L) (px_X3_approve np ne lc x1 x2 I L) := by
  refine gTi_of hJ (by decide +kernel) kc_X3_approve (Nat.le_of_ble_eq_true rfl) (fun p e s m below meth c A ls C hr ht hP hS hl => ?_)
  have hx := C.hx
  have hb := C.hb
  have hl : lv_has ls 5 [(0, .ref (ad 0)), (1, .int x1), (2, .int x2)] := hl
  refine lv_iload_n hx hb dX3_approve_0 rfl (lv_at hl 1 rfl) ?_
  refine gT_callSv (As := [.int x1]) (rest := []) C hP hS hl.1 (ct_X3_requireUser l D cy ad hJ hlf x1 I L) fa_X3_requireUser kl_X3_93 kst_X3_requireUser rfl (by decide) (Nat.le_of_ble_eq_true rfl) (by decide) (ht) (by decide) (fun E9 I9 L9 hx9 => Or.inl (hx9)) dX3_approve_1 rfl (fun I1 L1 H locs hq hP hS => ?_)
  obtain ⟨h1_0, rfl, rfl⟩ := hq
  obtain ⟨e1_0, l1_0⟩ := vp_ix h1_0
  refine lv_aload_n hx hb dX3_approve_4 rfl (lv_at hl 0 rfl) ?_
  refine lv_iload_n hx hb dX3_approve_5 rfl (lv_at hl 2 rfl) ?_
  refine gT_callVv (As := [.int x2]) (rest := []) C hP hS hl.1 (ct_X3_requireRequest l D cy ad hJ hlf x2 I L) fa_X3_requireRequest kl_X3_143 ki_X3_requireRequest kse_X3_requireRequest (by decide) (T := TX3) rfl rfl rfl (by decide) (Nat.le_of_ble_eq_true rfl) (by decide) (ht) (by decide) (fun E9 I9 L9 hx9 => Or.inr (Or.inl (⟨h1_0, hx9⟩))) dX3_approve_6 rfl (fun I6 L6 H locs hq hP hS => ?_)
  obtain ⟨h6_0, rfl, rfl⟩ := hq
  obtain ⟨e6_0_1, l6_0_1⟩ := vp_ix h6_0.1
  refine lv_aload_n hx hb dX3_approve_9 rfl (lv_at hl 0 rfl) ?_
  refine g_get (v := .ref (ad 4)) (T := TX3) C hP 0 4 (by decide) rfl rfl inwX3 (by decide) kf_X3_28 rfl dX3_approve_10 ?_
  refine lv_iload_n hx hb dX3_approve_13 rfl (lv_at hl 2 rfl) ?_
  refine g_aldQ C hP x2.toNatClampNeg e6_0_1 (by omega) dX3_approve_14 ?_
  refine lv_astore_n (lv' := [(3, .ref (ad (8 + x2.toNatClampNeg))), (0, .ref (ad 0)), (1, .int x1), (2, .int x2)]) hx hb dX3_approve_15 rfl hl (by decide) rfl (fun ls hl => ?_)
  refine lv_aload_n hx hb dX3_approve_16 rfl (lv_at hl 1 rfl) ?_
  refine lv_iload_n hx hb dX3_approve_17 rfl (lv_at hl 2 rfl) ?_
  refine lv_aload_n hx hb dX3_approve_18 rfl (lv_at hl 0 rfl) ?_
  refine gM_callVi (As := [.int x1, .ref (ad (8 + x2.toNatClampNeg))]) (rest := []) C hP hS hl.1 (ct_X3_mayApprove l D cy ad hJ np x2.toNatClampNeg x1 I L hnp hnp10 (by omega)) fa_X3_mayApprove kl_X3_146 ki_X3_mayApprove kse_X3_mayApprove (by decide) (T := TX3) rfl rfl rfl (by decide) (Nat.le_of_ble_eq_true rfl) (by decide) dX3_approve_19 rfl (fun r19 I19 L19 H locs hq hP hS => ?_)
  rcases hq with ⟨h19_0, rfl, rfl, rfl⟩ | ⟨h19_0, rfl, rfl, rfl⟩
  · obtain ⟨e19_0_1_2_1, l19_0_1_2_1⟩ := vp_ix h19_0.1.2.1
    refine lv_if_ne (tgt := 35) hx hb dX3_approve_22 (by decide) (fun c => ?_) (fun c => absurd c (by decide))
    refine lv_aload_n hx hb dX3_approve_35 rfl (lv_at hl 1 rfl) ?_
    refine lv_aload_n hx hb dX3_approve_36 rfl (lv_at hl 0 rfl) ?_
    refine g_getN (v := .int (I (8 + x2.toNatClampNeg) 0)) (T := TX2) C hP (8 + x2.toNatClampNeg) 0 (by omega) (kd_Q (by omega) _ _) rfl inwX2 (by decide) kn_f152 rfl dX3_approve_37 ?_
    refine lv_aload_n hx hb dX3_approve_40 rfl (lv_at hl 0 rfl) ?_
    refine g_getN (v := .int (I (8 + x2.toNatClampNeg) 1)) (T := TX2) C hP (8 + x2.toNatClampNeg) 1 (by omega) (kd_Q (by omega) _ _) rfl inwX2 (by decide) kn_f155 rfl dX3_approve_41 ?_
    refine gT_callVv (As := [.int (I (8 + x2.toNatClampNeg) 0), .int (I (8 + x2.toNatClampNeg) 1)]) (rest := []) C hP hS hl.1 (ct_X3_requireMayRun l D cy ad hJ hlf np (I (8 + x2.toNatClampNeg) 0) (I (8 + x2.toNatClampNeg) 1) I L hnp hnp10) fa_X3_requireMayRun kl_X3_123 ki_X3_requireMayRun kse_X3_requireMayRun (by decide) (T := TX3) rfl rfl rfl (by decide) (Nat.le_of_ble_eq_true rfl) (by decide) (ht) (by decide) (fun E9 I9 L9 hx9 => Or.inr (Or.inr (Or.inl (⟨h1_0, h6_0, h19_0, hx9⟩)))) dX3_approve_44 rfl (fun I44 L44 H locs hq hP hS => ?_)
    obtain ⟨h44_0, rfl, rfl⟩ := hq
    obtain ⟨e44_0_1, l44_0_1⟩ := vp_ix h44_0.1
    refine lv_aload_n hx hb dX3_approve_47 rfl (lv_at hl 1 rfl) ?_
    refine gT_callVv (As := []) (rest := []) C hP hS hl.1 (ct_X3_requireBooksTakeRun l D cy ad hJ hlf ne I L hne hne40) fa_X3_requireBooksTakeRun kl_X3_130 ki_X3_requireBooksTakeRun kse_X3_requireBooksTakeRun (by decide) (T := TX3) rfl rfl rfl (by decide) (Nat.le_of_ble_eq_true rfl) (by decide) (ht) (by decide) (fun E9 I9 L9 hx9 => hx9.elim (fun hx9 => Or.inr (Or.inr (Or.inr (Or.inl (⟨h1_0, h6_0, h19_0, h44_0, hx9⟩))))) (fun hx9 => Or.inr (Or.inr (Or.inr (Or.inr (Or.inl (⟨h1_0, h6_0, h19_0, h44_0, hx9⟩))))))) dX3_approve_48 rfl (fun I48 L48 H locs hq hP hS => ?_)
    obtain ⟨h48_0, h48_1, rfl, rfl⟩ := hq
    refine lv_aload_n hx hb dX3_approve_51 rfl (lv_at hl 1 rfl) ?_
    refine lv_aload_n hx hb dX3_approve_52 rfl (lv_at hl 0 rfl) ?_
    refine g_getN (v := .int (I (8 + x2.toNatClampNeg) 1)) (T := TX2) C hP (8 + x2.toNatClampNeg) 1 (by omega) (kd_Q (by omega) _ _) rfl inwX2 (by decide) kn_f155 rfl dX3_approve_53 ?_
    refine lv_aload_n hx hb dX3_approve_56 rfl (lv_at hl 0 rfl) ?_
    refine g_getN (v := .long (L (8 + x2.toNatClampNeg) 2)) (T := TX2) C hP (8 + x2.toNatClampNeg) 2 (by omega) (kd_Q (by omega) _ _) rfl inwX2 (by decide) kn_f158 rfl dX3_approve_57 ?_
    refine lv_aload_n hx hb dX3_approve_60 rfl (lv_at hl 0 rfl) ?_
    refine g_getN (v := .int (I (8 + x2.toNatClampNeg) 0)) (T := TX2) C hP (8 + x2.toNatClampNeg) 0 (by omega) (kd_Q (by omega) _ _) rfl inwX2 (by decide) kn_f152 rfl dX3_approve_61 ?_
    refine lv_iload_n hx hb dX3_approve_64 rfl (lv_at hl 2 rfl) ?_
    refine lv_iconst (v := (-1)) hx hb dX3_approve_65 (by decide) ?_
    refine gT_callVi (As := [.int (I (8 + x2.toNatClampNeg) 1), .long (L (8 + x2.toNatClampNeg) 2), .int (I (8 + x2.toNatClampNeg) 0), .int x1, .int (-1)]) (rest := []) C hP hS hl.1 (ct_X3_runAndLog l D cy ad hJ hlf ((I (8 + x2.toNatClampNeg) 1).toNatClampNeg) (lc ((I (8 + x2.toNatClampNeg) 1).toNatClampNeg)) ne (I (8 + x2.toNatClampNeg) 1) (L (8 + x2.toNatClampNeg) 2) (I (8 + x2.toNatClampNeg) 0) x1 (-1) I L e19_0_1_2_1 (by omega) (hlc ((I (8 + x2.toNatClampNeg) 1).toNatClampNeg) (by omega)) (hlc1 ((I (8 + x2.toNatClampNeg) 1).toNatClampNeg) (by omega)) (hlc4 ((I (8 + x2.toNatClampNeg) 1).toNatClampNeg) (by omega)) (hac ((I (8 + x2.toNatClampNeg) 1).toNatClampNeg) (by omega)) hne (by omega)) fa_X3_runAndLog kl_X3_139 ki_X3_runAndLog kse_X3_runAndLog (by decide) (T := TX3) rfl rfl rfl (by decide) (Nat.le_of_ble_eq_true rfl) (by decide) (ht) (by decide) (fun E9 I9 L9 hx9 => Or.inr (Or.inr (Or.inr (Or.inr (Or.inr (Or.inl (⟨h1_0, h6_0, h19_0, h44_0, h48_0, h48_1, hx9⟩))))))) dX3_approve_66 rfl (fun r66 I66 L66 H locs hq hP hS => ?_)
    obtain ⟨h66_0, rfl, rfl, rfl⟩ := hq
    refine lv_istore (lv' := [(4, .int (nI ne)), (3, .ref (ad (8 + x2.toNatClampNeg))), (0, .ref (ad 0)), (1, .int x1), (2, .int x2)]) hx hb dX3_approve_69 hl (by decide) rfl (fun ls hl => ?_)
    refine lv_aload_n hx hb dX3_approve_71 rfl (lv_at hl 1 rfl) ?_
    refine gM_callVNv (As := []) (rest := []) C hP hS hl.1 (ct_X2_clear l D cy ad hJ x2.toNatClampNeg (sI (sI (sI (sI (sI I (14 + ne) 0 (I (8 + x2.toNatClampNeg) 1)) (14 + ne) 2 (I (8 + x2.toNatClampNeg) 0)) (14 + ne) 3 x1) (14 + ne) 4 (-1)) 0 6 (nI ne + 1)) (sL (gRL (gcp (gPW L (L (8 + x2.toNatClampNeg) 2) (I (97 + 4 * ((I (8 + x2.toNatClampNeg) 1).toNatClampNeg))) (lc ((I (8 + x2.toNatClampNeg) 1).toNatClampNeg)) (-1)) ne) (I (96 + 4 * ((I (8 + x2.toNatClampNeg) 1).toNatClampNeg))) (54 + (ne + 1)) (lc ((I (8 + x2.toNatClampNeg) 1).toNatClampNeg))) (14 + ne) 1 (L (8 + x2.toNatClampNeg) 2)) (by omega)) fa_X2_clear kn_m162 ki_X2_clear kse_X2_clear (by omega) (T := TX2) (kd_Q (by omega) _ _) rfl rfl (by decide) (Nat.le_of_ble_eq_true rfl) (by decide) dX3_approve_72 rfl (fun I72 L72 H locs hq hP hS => ?_)
    obtain ⟨rfl, rfl⟩ := hq
    refine lv_iload hx hb dX3_approve_75 (lv_at hl 0 rfl) ?_
    exact gT_iret C hr hP hS (by decide) (by decide) dX3_approve_77 (⟨h1_0, h6_0, h19_0, h44_0, h48_0, h48_1, h66_0, rfl, rfl, rfl⟩)
  · refine lv_if_ne (tgt := 35) hx hb dX3_approve_22 (by decide) (fun c => absurd c (by decide)) (fun c => ?_)
    exact g_throwS (cls := xUO) C hlf hP hS hl.1 (by decide) kcl_X3_108 kini_UnsupportedOperationException ks_150 gat_112 gan_112 gao_112 dX3_approve_25 dX3_approve_28 dX3_approve_29 dX3_approve_31 dX3_approve_34 ht (by decide) (by decide) (by decide) (by decide) (by decide) (Or.inr (Or.inr (Or.inr (Or.inr (Or.inr (Or.inr (⟨h1_0, h6_0, h19_0, rfl, rfl, rfl⟩)))))))
def pq_X3_withdraw (np : Nat) (x1 : Int32) (x2 : Int32) (I : MI) (L : ML) : MI → ML → Prop := fun I' L' => (vp_in x1 8 ∧ (vp_in x2 6 ∧ ¬ I (8 + x2.toNatClampNeg) 0 = -1) ∧ (I (8 + x2.toNatClampNeg) 0) = x1 ∧ (sI I (8 + x2.toNatClampNeg) 0 (-1)) = I' ∧ L = L') ∨ (vp_in x1 8 ∧ (vp_in x2 6 ∧ ¬ I (8 + x2.toNatClampNeg) 0 = -1) ∧ ¬ (I (8 + x2.toNatClampNeg) 0) = x1 ∧ (gMR np I x1 (I (8 + x2.toNatClampNeg) 1) ∧ ¬ I (8 + x2.toNatClampNeg) 0 = x1) ∧ (sI I (8 + x2.toNatClampNeg) 0 (-1)) = I' ∧ L = L')
def px_X3_withdraw (np : Nat) (x1 : Int32) (x2 : Int32) (I : MI) (L : ML) : String → MI → ML → Prop := fun E I' L' => (¬ vp_in x1 8 ∧ xIO = E ∧ I = I' ∧ L = L') ∨ (vp_in x1 8 ∧ (¬ (vp_in x2 6 ∧ ¬ I (8 + x2.toNatClampNeg) 0 = -1)) ∧ xIO = E ∧ I = I' ∧ L = L') ∨ (vp_in x1 8 ∧ (vp_in x2 6 ∧ ¬ I (8 + x2.toNatClampNeg) 0 = -1) ∧ ¬ (I (8 + x2.toNatClampNeg) 0) = x1 ∧ (¬ (gMR np I x1 (I (8 + x2.toNatClampNeg) 1) ∧ ¬ I (8 + x2.toNatClampNeg) 0 = x1)) ∧ xUO = E ∧ I = I' ∧ L = L')
set_option maxRecDepth 100000 in
set_option maxHeartbeats 4000000 in
theorem ct_X3_withdraw (l : Launch) (D : va_G) (cy : Nat → ClassId) (ad : Nat → Nat) (hJ : gJ ad) (hlf : l.stackTraces = false) (np : Nat) (x1 : Int32) (x2 : Int32) (I : MI) (L : ML) (hnp : I 0 3 = nI np) (hnp10 : np ≤ 10) : gTv l D cy ad yX3_withdraw cX3_withdraw 4 (gR 1 3 18) [.ref (ad 0), .int x1, .int x2] I L (pq_X3_withdraw np x1 x2 I L) (px_X3_withdraw np x1 x2 I L) := by
  refine gTv_of hJ (by decide +kernel) kc_X3_withdraw (Nat.le_of_ble_eq_true rfl) (fun p e s m below meth c A ls C hr ht hP hS hl => ?_)
  have hx := C.hx
  have hb := C.hb
  have hl : lv_has ls 4 [(0, .ref (ad 0)), (1, .int x1), (2, .int x2)] := hl
  refine lv_iload_n hx hb dX3_withdraw_0 rfl (lv_at hl 1 rfl) ?_
  refine gT_callSv (As := [.int x1]) (rest := []) C hP hS hl.1 (ct_X3_requireUser l D cy ad hJ hlf x1 I L) fa_X3_requireUser kl_X3_93 kst_X3_requireUser rfl (by decide) (Nat.le_of_ble_eq_true rfl) (by decide) (ht) (by decide) (fun E9 I9 L9 hx9 => Or.inl (hx9)) dX3_withdraw_1 rfl (fun I1 L1 H locs hq hP hS => ?_)
  obtain ⟨h1_0, rfl, rfl⟩ := hq
  obtain ⟨e1_0, l1_0⟩ := vp_ix h1_0
  refine lv_aload_n hx hb dX3_withdraw_4 rfl (lv_at hl 0 rfl) ?_
  refine lv_iload_n hx hb dX3_withdraw_5 rfl (lv_at hl 2 rfl) ?_
  refine gT_callVv (As := [.int x2]) (rest := []) C hP hS hl.1 (ct_X3_requireRequest l D cy ad hJ hlf x2 I L) fa_X3_requireRequest kl_X3_143 ki_X3_requireRequest kse_X3_requireRequest (by decide) (T := TX3) rfl rfl rfl (by decide) (Nat.le_of_ble_eq_true rfl) (by decide) (ht) (by decide) (fun E9 I9 L9 hx9 => Or.inr (Or.inl (⟨h1_0, hx9⟩))) dX3_withdraw_6 rfl (fun I6 L6 H locs hq hP hS => ?_)
  obtain ⟨h6_0, rfl, rfl⟩ := hq
  obtain ⟨e6_0_1, l6_0_1⟩ := vp_ix h6_0.1
  refine lv_aload_n hx hb dX3_withdraw_9 rfl (lv_at hl 0 rfl) ?_
  refine g_get (v := .ref (ad 4)) (T := TX3) C hP 0 4 (by decide) rfl rfl inwX3 (by decide) kf_X3_28 rfl dX3_withdraw_10 ?_
  refine lv_iload_n hx hb dX3_withdraw_13 rfl (lv_at hl 2 rfl) ?_
  refine g_aldQ C hP x2.toNatClampNeg e6_0_1 (by omega) dX3_withdraw_14 ?_
  refine lv_astore_n (lv' := [(3, .ref (ad (8 + x2.toNatClampNeg))), (0, .ref (ad 0)), (1, .int x1), (2, .int x2)]) hx hb dX3_withdraw_15 rfl hl (by decide) rfl (fun ls hl => ?_)
  refine lv_aload_n hx hb dX3_withdraw_16 rfl (lv_at hl 0 rfl) ?_
  refine g_getN (v := .int (I (8 + x2.toNatClampNeg) 0)) (T := TX2) C hP (8 + x2.toNatClampNeg) 0 (by omega) (kd_Q (by omega) _ _) rfl inwX2 (by decide) kn_f152 rfl dX3_withdraw_17 ?_
  refine lv_iload_n hx hb dX3_withdraw_20 rfl (lv_at hl 2 rfl) ?_
  refine lv_icmp_eq (tgt := 43) hx hb dX3_withdraw_21 (by decide) (fun c21 => ?_) (fun c21 => ?_)
  · refine lv_aload_n hx hb dX3_withdraw_43 rfl (lv_at hl 0 rfl) ?_
    refine gM_callVNv (As := []) (rest := []) C hP hS hl.1 (ct_X2_clear l D cy ad hJ x2.toNatClampNeg I L (by omega)) fa_X2_clear kn_m162 ki_X2_clear kse_X2_clear (by omega) (T := TX2) (kd_Q (by omega) _ _) rfl rfl (by decide) (Nat.le_of_ble_eq_true rfl) (by decide) dX3_withdraw_44 rfl (fun I44 L44 H locs hq hP hS => ?_)
    obtain ⟨rfl, rfl⟩ := hq
    exact gT_vret C hr hP hS (by decide) (by decide) dX3_withdraw_47 (Or.inl (⟨h1_0, h6_0, c21, rfl, rfl⟩))
  · refine lv_aload_n hx hb dX3_withdraw_24 rfl (lv_at hl 1 rfl) ?_
    refine lv_iload_n hx hb dX3_withdraw_25 rfl (lv_at hl 2 rfl) ?_
    refine lv_aload_n hx hb dX3_withdraw_26 rfl (lv_at hl 0 rfl) ?_
    refine gM_callVi (As := [.int x1, .ref (ad (8 + x2.toNatClampNeg))]) (rest := []) C hP hS hl.1 (ct_X3_mayApprove l D cy ad hJ np x2.toNatClampNeg x1 I L hnp hnp10 (by omega)) fa_X3_mayApprove kl_X3_146 ki_X3_mayApprove kse_X3_mayApprove (by decide) (T := TX3) rfl rfl rfl (by decide) (Nat.le_of_ble_eq_true rfl) (by decide) dX3_withdraw_27 rfl (fun r27 I27 L27 H locs hq hP hS => ?_)
    rcases hq with ⟨h27_0, rfl, rfl, rfl⟩ | ⟨h27_0, rfl, rfl, rfl⟩
    · obtain ⟨e27_0_1_2_1, l27_0_1_2_1⟩ := vp_ix h27_0.1.2.1
      refine lv_if_ne (tgt := 43) hx hb dX3_withdraw_30 (by decide) (fun c => ?_) (fun c => absurd c (by decide))
      refine lv_aload_n hx hb dX3_withdraw_43 rfl (lv_at hl 0 rfl) ?_
      refine gM_callVNv (As := []) (rest := []) C hP hS hl.1 (ct_X2_clear l D cy ad hJ x2.toNatClampNeg I L (by omega)) fa_X2_clear kn_m162 ki_X2_clear kse_X2_clear (by omega) (T := TX2) (kd_Q (by omega) _ _) rfl rfl (by decide) (Nat.le_of_ble_eq_true rfl) (by decide) dX3_withdraw_44 rfl (fun I44 L44 H locs hq hP hS => ?_)
      obtain ⟨rfl, rfl⟩ := hq
      exact gT_vret C hr hP hS (by decide) (by decide) dX3_withdraw_47 (Or.inr (⟨h1_0, h6_0, c21, h27_0, rfl, rfl⟩))
    · refine lv_if_ne (tgt := 43) hx hb dX3_withdraw_30 (by decide) (fun c => absurd c (by decide)) (fun c => ?_)
      exact g_throwS (cls := xUO) C hlf hP hS hl.1 (by decide) kcl_X3_108 kini_UnsupportedOperationException ks_165 gat_112 gan_112 gao_112 dX3_withdraw_33 dX3_withdraw_36 dX3_withdraw_37 dX3_withdraw_39 dX3_withdraw_42 ht (by decide) (by decide) (by decide) (by decide) (by decide) (Or.inr (Or.inr (⟨h1_0, h6_0, c21, h27_0, rfl, rfl, rfl⟩)))
def pq_X3_reverse (np : Nat) (ne : Nat) (lc : Nat → Nat) (x1 : Int32) (x2 : Int32) (I : MI) (L : ML) : Int32 → MI → ML → Prop := fun r I' L' => (vp_in x1 8 ∧ vp_in x2 ne ∧ gMR np I x1 (I (14 + x2.toNatClampNeg) 0) ∧ ¬ (I (14 + x2.toNatClampNeg) 2) = x1 ∧ (I (14 + x2.toNatClampNeg) 4) = (-1) ∧ (I (14 + x2.toNatClampNeg) 5) = (-1) ∧ (gcn (L 1) (L (54 + ne)) 8) = 0 ∧ ne < 40 ∧ (∀ k, k < (lc ((I (14 + x2.toNatClampNeg) 0).toNatClampNeg)) → ¬ gfl (I (96 + 4 * ((I (14 + x2.toNatClampNeg) 0).toNatClampNeg))) ((gPW L (L (14 + x2.toNatClampNeg) 1) (I (97 + 4 * ((I (14 + x2.toNatClampNeg) 0).toNatClampNeg))) (lc ((I (14 + x2.toNatClampNeg) 0).toNatClampNeg)) x2) 1) ((gPW L (L (14 + x2.toNatClampNeg) 1) (I (97 + 4 * ((I (14 + x2.toNatClampNeg) 0).toNatClampNeg))) (lc ((I (14 + x2.toNatClampNeg) 0).toNatClampNeg)) x2) 2) ((gPW L (L (14 + x2.toNatClampNeg) 1) (I (97 + 4 * ((I (14 + x2.toNatClampNeg) 0).toNatClampNeg))) (lc ((I (14 + x2.toNatClampNeg) 0).toNatClampNeg)) x2) 7) k) ∧ nI ne = r ∧ (sI (sI (sI (sI (sI (sI I (14 + ne) 0 (I (14 + x2.toNatClampNeg) 0)) (14 + ne) 2 x1) (14 + ne) 3 (-1)) (14 + ne) 4 x2) 0 6 (nI ne + 1)) (14 + x2.toNatClampNeg) 5 (nI ne)) = I' ∧ (sL (gRL (gcp (gPW L (L (14 + x2.toNatClampNeg) 1) (I (97 + 4 * ((I (14 + x2.toNatClampNeg) 0).toNatClampNeg))) (lc ((I (14 + x2.toNatClampNeg) 0).toNatClampNeg)) x2) ne) (I (96 + 4 * ((I (14 + x2.toNatClampNeg) 0).toNatClampNeg))) (54 + (ne + 1)) (lc ((I (14 + x2.toNatClampNeg) 0).toNatClampNeg))) (14 + ne) 1 (L (14 + x2.toNatClampNeg) 1)) = L')
def px_X3_reverse (np : Nat) (ne : Nat) (lc : Nat → Nat) (x1 : Int32) (x2 : Int32) (I : MI) (L : ML) : String → MI → ML → Prop := fun E I' L' => (¬ vp_in x1 8 ∧ xIO = E ∧ I = I' ∧ L = L') ∨ (vp_in x1 8 ∧ ¬ vp_in x2 ne ∧ xIO = E ∧ I = I' ∧ L = L') ∨ (vp_in x1 8 ∧ vp_in x2 ne ∧ ¬ gMR np I x1 (I (14 + x2.toNatClampNeg) 0) ∧ xUO = E ∧ I = I' ∧ L = L') ∨ (vp_in x1 8 ∧ vp_in x2 ne ∧ gMR np I x1 (I (14 + x2.toNatClampNeg) 0) ∧ ¬ (I (14 + x2.toNatClampNeg) 2) = x1 ∧ ¬ (I (14 + x2.toNatClampNeg) 4) = (-1) ∧ xIS = E ∧ I = I' ∧ L = L') ∨ (vp_in x1 8 ∧ vp_in x2 ne ∧ gMR np I x1 (I (14 + x2.toNatClampNeg) 0) ∧ ¬ (I (14 + x2.toNatClampNeg) 2) = x1 ∧ (I (14 + x2.toNatClampNeg) 4) = (-1) ∧ (I (14 + x2.toNatClampNeg) 5) = (-1) ∧ (gcn (L 1) (L (54 + ne)) 8) = 0 ∧ ¬ ne < 40 ∧ xIS = E ∧ I = I' ∧ L = L') ∨ (vp_in x1 8 ∧ vp_in x2 ne ∧ gMR np I x1 (I (14 + x2.toNatClampNeg) 0) ∧ ¬ (I (14 + x2.toNatClampNeg) 2) = x1 ∧ (I (14 + x2.toNatClampNeg) 4) = (-1) ∧ (I (14 + x2.toNatClampNeg) 5) = (-1) ∧ ¬ (gcn (L 1) (L (54 + ne)) 8) = 0 ∧ xIS = E ∧ I = I' ∧ L = L') ∨ (vp_in x1 8 ∧ vp_in x2 ne ∧ gMR np I x1 (I (14 + x2.toNatClampNeg) 0) ∧ ¬ (I (14 + x2.toNatClampNeg) 2) = x1 ∧ (I (14 + x2.toNatClampNeg) 4) = (-1) ∧ (I (14 + x2.toNatClampNeg) 5) = (-1) ∧ (gcn (L 1) (L (54 + ne)) 8) = 0 ∧ ne < 40 ∧ (¬ (∀ k, k < (lc ((I (14 + x2.toNatClampNeg) 0).toNatClampNeg)) → ¬ gfl (I (96 + 4 * ((I (14 + x2.toNatClampNeg) 0).toNatClampNeg))) ((gPW L (L (14 + x2.toNatClampNeg) 1) (I (97 + 4 * ((I (14 + x2.toNatClampNeg) 0).toNatClampNeg))) (lc ((I (14 + x2.toNatClampNeg) 0).toNatClampNeg)) x2) 1) ((gPW L (L (14 + x2.toNatClampNeg) 1) (I (97 + 4 * ((I (14 + x2.toNatClampNeg) 0).toNatClampNeg))) (lc ((I (14 + x2.toNatClampNeg) 0).toNatClampNeg)) x2) 2) ((gPW L (L (14 + x2.toNatClampNeg) 1) (I (97 + 4 * ((I (14 + x2.toNatClampNeg) 0).toNatClampNeg))) (lc ((I (14 + x2.toNatClampNeg) 0).toNatClampNeg)) x2) 7) k)) ∧ xIS = E ∧ I = I' ∧ (gPW L (L (14 + x2.toNatClampNeg) 1) (I (97 + 4 * ((I (14 + x2.toNatClampNeg) 0).toNatClampNeg))) (lc ((I (14 + x2.toNatClampNeg) 0).toNatClampNeg)) x2) = L') ∨ (vp_in x1 8 ∧ vp_in x2 ne ∧ gMR np I x1 (I (14 + x2.toNatClampNeg) 0) ∧ ¬ (I (14 + x2.toNatClampNeg) 2) = x1 ∧ (I (14 + x2.toNatClampNeg) 4) = (-1) ∧ ¬ (I (14 + x2.toNatClampNeg) 5) = (-1) ∧ xIS = E ∧ I = I' ∧ L = L') ∨ (vp_in x1 8 ∧ vp_in x2 ne ∧ gMR np I x1 (I (14 + x2.toNatClampNeg) 0) ∧ (I (14 + x2.toNatClampNeg) 2) = x1 ∧ xUO = E ∧ I = I' ∧ L = L')
set_option maxRecDepth 100000 in
set_option maxHeartbeats 4000000 in
theorem ct_X3_reverse (l : Launch) (D : va_G) (cy : Nat → ClassId) (ad : Nat → Nat) (hJ : gJ ad) (hlf : l.stackTraces = false) (np : Nat) (ne : Nat) (lc : Nat → Nat) (x1 : Int32) (x2 : Int32) (I : MI) (L : ML) (hnp : I 0 3 = nI np) (hnp10 : np ≤ 10) (hne : I 0 6 = nI ne) (hne40 : ne ≤ 40) (hlc : ∀ pp, pp < 10 → I (95 + 4 * pp) 2 = nI (lc pp)) (hlc4 : ∀ pp, pp < 10 → lc pp ≤ 4) (hlc1 : ∀ pp, pp < np → 1 ≤ lc pp) (hac : ∀ pp, pp < 10 → ∀ k, k < lc pp → vp_in (I (96 + 4 * pp) k) 8) : gTi l D cy ad yX3_reverse cX3_reverse 5 .int (gR 1 5 30) [.ref (ad 0), .int x1, .int x2] I L (pq_X3_reverse np ne lc x1 x2 I L) (px_X3_reverse np ne lc x1 x2 I L) := by
  refine gTi_of hJ (by decide +kernel) kc_X3_reverse (Nat.le_of_ble_eq_true rfl) (fun p e s m below meth c A ls C hr ht hP hS hl => ?_)
  have hx := C.hx
  have hb := C.hb
  have hl : lv_has ls 5 [(0, .ref (ad 0)), (1, .int x1), (2, .int x2)] := hl
  refine lv_iload_n hx hb dX3_reverse_0 rfl (lv_at hl 1 rfl) ?_
  refine gT_callSv (As := [.int x1]) (rest := []) C hP hS hl.1 (ct_X3_requireUser l D cy ad hJ hlf x1 I L) fa_X3_requireUser kl_X3_93 kst_X3_requireUser rfl (by decide) (Nat.le_of_ble_eq_true rfl) (by decide) (ht) (by decide) (fun E9 I9 L9 hx9 => Or.inl (hx9)) dX3_reverse_1 rfl (fun I1 L1 H locs hq hP hS => ?_)
  obtain ⟨h1_0, rfl, rfl⟩ := hq
  obtain ⟨e1_0, l1_0⟩ := vp_ix h1_0
  refine lv_aload_n hx hb dX3_reverse_4 rfl (lv_at hl 0 rfl) ?_
  refine lv_iload_n hx hb dX3_reverse_5 rfl (lv_at hl 2 rfl) ?_
  refine gT_callVv (As := [.int x2]) (rest := []) C hP hS hl.1 (ct_X3_requireEntry l D cy ad hJ hlf ne x2 I L hne hne40) fa_X3_requireEntry kl_X3_167 ki_X3_requireEntry kse_X3_requireEntry (by decide) (T := TX3) rfl rfl rfl (by decide) (Nat.le_of_ble_eq_true rfl) (by decide) (ht) (by decide) (fun E9 I9 L9 hx9 => Or.inr (Or.inl (⟨h1_0, hx9⟩))) dX3_reverse_6 rfl (fun I6 L6 H locs hq hP hS => ?_)
  obtain ⟨h6_0, rfl, rfl⟩ := hq
  obtain ⟨e6_0, l6_0⟩ := vp_ix h6_0
  refine lv_aload_n hx hb dX3_reverse_9 rfl (lv_at hl 0 rfl) ?_
  refine g_get (v := .ref (ad 5)) (T := TX3) C hP 0 5 (by decide) rfl rfl inwX3 (by decide) kf_X3_34 rfl dX3_reverse_10 ?_
  refine lv_iload_n hx hb dX3_reverse_13 rfl (lv_at hl 2 rfl) ?_
  refine g_aldE C hP x2.toNatClampNeg e6_0 (by omega) dX3_reverse_14 ?_
  refine lv_astore_n (lv' := [(3, .ref (ad (14 + x2.toNatClampNeg))), (0, .ref (ad 0)), (1, .int x1), (2, .int x2)]) hx hb dX3_reverse_15 rfl hl (by decide) rfl (fun ls hl => ?_)
  refine lv_aload_n hx hb dX3_reverse_16 rfl (lv_at hl 1 rfl) ?_
  refine lv_iload_n hx hb dX3_reverse_17 rfl (lv_at hl 2 rfl) ?_
  refine lv_aload_n hx hb dX3_reverse_18 rfl (lv_at hl 0 rfl) ?_
  refine g_getN (v := .int (I (14 + x2.toNatClampNeg) 0)) (T := TX0) C hP (14 + x2.toNatClampNeg) 0 (by omega) (kd_E (by omega) _ _) rfl inwX0 (by decide) kn_f170 rfl dX3_reverse_19 ?_
  refine gT_callVv (As := [.int x1, .int (I (14 + x2.toNatClampNeg) 0)]) (rest := []) C hP hS hl.1 (ct_X3_requireMayRun l D cy ad hJ hlf np x1 (I (14 + x2.toNatClampNeg) 0) I L hnp hnp10) fa_X3_requireMayRun kl_X3_123 ki_X3_requireMayRun kse_X3_requireMayRun (by decide) (T := TX3) rfl rfl rfl (by decide) (Nat.le_of_ble_eq_true rfl) (by decide) (ht) (by decide) (fun E9 I9 L9 hx9 => Or.inr (Or.inr (Or.inl (⟨h1_0, h6_0, hx9⟩)))) dX3_reverse_22 rfl (fun I22 L22 H locs hq hP hS => ?_)
  obtain ⟨h22_0, rfl, rfl⟩ := hq
  obtain ⟨e22_0_2_1, l22_0_2_1⟩ := vp_ix h22_0.2.1
  refine lv_aload_n hx hb dX3_reverse_25 rfl (lv_at hl 0 rfl) ?_
  refine g_getN (v := .int (I (14 + x2.toNatClampNeg) 2)) (T := TX0) C hP (14 + x2.toNatClampNeg) 2 (by omega) (kd_E (by omega) _ _) rfl inwX0 (by decide) kn_f171 rfl dX3_reverse_26 ?_
  refine lv_iload_n hx hb dX3_reverse_29 rfl (lv_at hl 2 rfl) ?_
  refine lv_icmp_ne (tgt := 43) hx hb dX3_reverse_30 (by decide) (fun c30 => ?_) (fun c30 => ?_)
  · refine lv_aload_n hx hb dX3_reverse_43 rfl (lv_at hl 0 rfl) ?_
    refine g_getN (v := .int (I (14 + x2.toNatClampNeg) 4)) (T := TX0) C hP (14 + x2.toNatClampNeg) 4 (by omega) (kd_E (by omega) _ _) rfl inwX0 (by decide) kn_f174 rfl dX3_reverse_44 ?_
    refine lv_iconst (v := (-1)) hx hb dX3_reverse_47 (by decide) ?_
    refine lv_icmp_ne (tgt := 59) hx hb dX3_reverse_48 (by decide) (fun c48 => ?_) (fun c48 => ?_)
    · exact g_throwS (cls := xIS) C hlf hP hS hl.1 (by decide) kcl_X3_61 kini_IllegalStateException ks_180 gat_65 gan_65 gao_65 dX3_reverse_59 dX3_reverse_62 dX3_reverse_63 dX3_reverse_65 dX3_reverse_68 ht (by decide) (by decide) (by decide) (by decide) (by decide) (Or.inr (Or.inr (Or.inr (Or.inl (⟨h1_0, h6_0, h22_0, c30, c48, rfl, rfl, rfl⟩)))))
    · refine lv_aload_n hx hb dX3_reverse_51 rfl (lv_at hl 0 rfl) ?_
      refine g_getN (v := .int (I (14 + x2.toNatClampNeg) 5)) (T := TX0) C hP (14 + x2.toNatClampNeg) 5 (by omega) (kd_E (by omega) _ _) rfl inwX0 (by decide) kn_f177 rfl dX3_reverse_52 ?_
      refine lv_iconst (v := (-1)) hx hb dX3_reverse_55 (by decide) ?_
      refine lv_icmp_eq (tgt := 69) hx hb dX3_reverse_56 (by decide) (fun c56 => ?_) (fun c56 => ?_)
      · refine lv_aload_n hx hb dX3_reverse_69 rfl (lv_at hl 1 rfl) ?_
        refine gT_callVv (As := []) (rest := []) C hP hS hl.1 (ct_X3_requireBooksTakeRun l D cy ad hJ hlf ne I L hne hne40) fa_X3_requireBooksTakeRun kl_X3_130 ki_X3_requireBooksTakeRun kse_X3_requireBooksTakeRun (by decide) (T := TX3) rfl rfl rfl (by decide) (Nat.le_of_ble_eq_true rfl) (by decide) (ht) (by decide) (fun E9 I9 L9 hx9 => hx9.elim (fun hx9 => Or.inr (Or.inr (Or.inr (Or.inr (Or.inl (⟨h1_0, h6_0, h22_0, c30, c48, c56, hx9⟩)))))) (fun hx9 => Or.inr (Or.inr (Or.inr (Or.inr (Or.inr (Or.inl (⟨h1_0, h6_0, h22_0, c30, c48, c56, hx9⟩)))))))) dX3_reverse_70 rfl (fun I70 L70 H locs hq hP hS => ?_)
        obtain ⟨h70_0, h70_1, rfl, rfl⟩ := hq
        refine lv_aload_n hx hb dX3_reverse_73 rfl (lv_at hl 1 rfl) ?_
        refine lv_aload_n hx hb dX3_reverse_74 rfl (lv_at hl 0 rfl) ?_
        refine g_getN (v := .int (I (14 + x2.toNatClampNeg) 0)) (T := TX0) C hP (14 + x2.toNatClampNeg) 0 (by omega) (kd_E (by omega) _ _) rfl inwX0 (by decide) kn_f170 rfl dX3_reverse_75 ?_
        refine lv_aload_n hx hb dX3_reverse_78 rfl (lv_at hl 0 rfl) ?_
        refine g_getN (v := .long (L (14 + x2.toNatClampNeg) 1)) (T := TX0) C hP (14 + x2.toNatClampNeg) 1 (by omega) (kd_E (by omega) _ _) rfl inwX0 (by decide) kn_f182 rfl dX3_reverse_79 ?_
        refine lv_iload_n hx hb dX3_reverse_82 rfl (lv_at hl 2 rfl) ?_
        refine lv_iconst (v := (-1)) hx hb dX3_reverse_83 (by decide) ?_
        refine lv_iload_n hx hb dX3_reverse_84 rfl (lv_at hl 3 rfl) ?_
        refine gT_callVi (As := [.int (I (14 + x2.toNatClampNeg) 0), .long (L (14 + x2.toNatClampNeg) 1), .int x1, .int (-1), .int x2]) (rest := []) C hP hS hl.1 (ct_X3_runAndLog l D cy ad hJ hlf ((I (14 + x2.toNatClampNeg) 0).toNatClampNeg) (lc ((I (14 + x2.toNatClampNeg) 0).toNatClampNeg)) ne (I (14 + x2.toNatClampNeg) 0) (L (14 + x2.toNatClampNeg) 1) x1 (-1) x2 I L e22_0_2_1 (by omega) (hlc ((I (14 + x2.toNatClampNeg) 0).toNatClampNeg) (by omega)) (hlc1 ((I (14 + x2.toNatClampNeg) 0).toNatClampNeg) (by omega)) (hlc4 ((I (14 + x2.toNatClampNeg) 0).toNatClampNeg) (by omega)) (hac ((I (14 + x2.toNatClampNeg) 0).toNatClampNeg) (by omega)) hne (by omega)) fa_X3_runAndLog kl_X3_139 ki_X3_runAndLog kse_X3_runAndLog (by decide) (T := TX3) rfl rfl rfl (by decide) (Nat.le_of_ble_eq_true rfl) (by decide) (ht) (by decide) (fun E9 I9 L9 hx9 => Or.inr (Or.inr (Or.inr (Or.inr (Or.inr (Or.inr (Or.inl (⟨h1_0, h6_0, h22_0, c30, c48, c56, h70_0, h70_1, hx9⟩)))))))) dX3_reverse_85 rfl (fun r85 I85 L85 H locs hq hP hS => ?_)
        obtain ⟨h85_0, rfl, rfl, rfl⟩ := hq
        refine lv_istore (lv' := [(4, .int (nI ne)), (3, .ref (ad (14 + x2.toNatClampNeg))), (0, .ref (ad 0)), (1, .int x1), (2, .int x2)]) hx hb dX3_reverse_88 hl (by decide) rfl (fun ls hl => ?_)
        refine lv_aload_n hx hb dX3_reverse_90 rfl (lv_at hl 1 rfl) ?_
        refine lv_iload hx hb dX3_reverse_91 (lv_at hl 0 rfl) ?_
        refine g_putIN (T := TX0) C hP hS (14 + x2.toNatClampNeg) 5 (by omega) (kd_E (by omega) _ _) rfl inwX0 tyX0 tyX0_ok nmX0 (by decide) kn_f177 rfl rfl (by decide : 5 < 6) ((kd_E (by omega) _ _).trans (by simp only [sI, va_up_self]; rfl)) dX3_reverse_93 (fun H locs hP hS => ?_)
        refine lv_iload hx hb dX3_reverse_96 (lv_at hl 0 rfl) ?_
        exact gT_iret C hr hP hS (by decide) (by decide) dX3_reverse_98 (⟨h1_0, h6_0, h22_0, c30, c48, c56, h70_0, h70_1, h85_0, rfl, rfl, rfl⟩)
      · exact g_throwS (cls := xIS) C hlf hP hS hl.1 (by decide) kcl_X3_61 kini_IllegalStateException ks_180 gat_65 gan_65 gao_65 dX3_reverse_59 dX3_reverse_62 dX3_reverse_63 dX3_reverse_65 dX3_reverse_68 ht (by decide) (by decide) (by decide) (by decide) (by decide) (Or.inr (Or.inr (Or.inr (Or.inr (Or.inr (Or.inr (Or.inr (Or.inl (⟨h1_0, h6_0, h22_0, c30, c48, c56, rfl, rfl, rfl⟩)))))))))
  · exact g_throwS (cls := xUO) C hlf hP hS hl.1 (by decide) kcl_X3_108 kini_UnsupportedOperationException ks_172 gat_112 gan_112 gao_112 dX3_reverse_33 dX3_reverse_36 dX3_reverse_37 dX3_reverse_39 dX3_reverse_42 ht (by decide) (by decide) (by decide) (by decide) (by decide) (Or.inr (Or.inr (Or.inr (Or.inr (Or.inr (Or.inr (Or.inr (Or.inr (⟨h1_0, h6_0, h22_0, c30, rfl, rfl, rfl⟩)))))))))
def pq_X3_tamper (x1 : Int32) (x2 : Int64) (I : MI) (L : ML) : Int64 → MI → ML → Prop := fun r I' L' => (vp_in x1 8 ∧ ¬ x2 < (-1000000) ∧ x2 ≤ 1000000 ∧ ¬ ((L 1 x1.toNatClampNeg) + x2) < (-1000000000000) ∧ ((L 1 x1.toNatClampNeg) + x2) ≤ 1000000000000 ∧ (L 1 x1.toNatClampNeg) + x2 = r ∧ I = I' ∧ (sL L 1 x1.toNatClampNeg ((L 1 x1.toNatClampNeg) + x2)) = L')
def px_X3_tamper (x1 : Int32) (x2 : Int64) (I : MI) (L : ML) : String → MI → ML → Prop := fun E I' L' => (¬ vp_in x1 8 ∧ xIO = E ∧ I = I' ∧ L = L') ∨ (vp_in x1 8 ∧ x2 < (-1000000) ∧ xIA = E ∧ I = I' ∧ L = L') ∨ (vp_in x1 8 ∧ ¬ x2 < (-1000000) ∧ x2 ≤ 1000000 ∧ ((L 1 x1.toNatClampNeg) + x2) < (-1000000000000) ∧ xIS = E ∧ I = I' ∧ L = L') ∨ (vp_in x1 8 ∧ ¬ x2 < (-1000000) ∧ x2 ≤ 1000000 ∧ ¬ ((L 1 x1.toNatClampNeg) + x2) < (-1000000000000) ∧ ¬ ((L 1 x1.toNatClampNeg) + x2) ≤ 1000000000000 ∧ xIS = E ∧ I = I' ∧ L = L') ∨ (vp_in x1 8 ∧ ¬ x2 < (-1000000) ∧ ¬ x2 ≤ 1000000 ∧ xIA = E ∧ I = I' ∧ L = L')
set_option maxRecDepth 100000 in
set_option maxHeartbeats 4000000 in
theorem ct_X3_tamper (l : Launch) (D : va_G) (cy : Nat → ClassId) (ad : Nat → Nat) (hJ : gJ ad) (hlf : l.stackTraces = false) (x1 : Int32) (x2 : Int64) (I : MI) (L : ML) : gTl l D cy ad yX3_tamper cX3_tamper 6 .long (gR 1 2 12) [.ref (ad 0), .int x1, .long x2] I L (pq_X3_tamper x1 x2 I L) (px_X3_tamper x1 x2 I L) := by
  refine gTl_of hJ (by decide +kernel) kc_X3_tamper (Nat.le_of_ble_eq_true rfl) (fun p e s m below meth c A ls C hr ht hP hS hl => ?_)
  have hx := C.hx
  have hb := C.hb
  have hl : lv_has ls 6 [(0, .ref (ad 0)), (1, .int x1), (2, .long x2)] := hl
  refine lv_iload_n hx hb dX3_tamper_0 rfl (lv_at hl 1 rfl) ?_
  refine gT_callSv (As := [.int x1]) (rest := []) C hP hS hl.1 (ct_X3_requireAccount l D cy ad hJ hlf x1 I L) fa_X3_requireAccount kl_X3_54 kst_X3_requireAccount rfl (by decide) (Nat.le_of_ble_eq_true rfl) (by decide) (ht) (by decide) (fun E9 I9 L9 hx9 => Or.inl (hx9)) dX3_tamper_1 rfl (fun I1 L1 H locs hq hP hS => ?_)
  obtain ⟨h1_0, rfl, rfl⟩ := hq
  obtain ⟨e1_0, l1_0⟩ := vp_ix h1_0
  refine lv_lload_n hx hb dX3_tamper_4 rfl (lv_at hl 2 rfl) ?_
  refine lv_ldc2 (v := (-1000000)) hx hb C.hown (C.hts _ kcn_X3_183) dX3_tamper_5 ?_
  refine W.lcmp hx hb dX3_tamper_8 ?_
  refine lv_if_lt (tgt := 20) hx hb dX3_tamper_9 (by decide) (fun c9 => ?_) (fun c9 => ?_)
  · have n9 : x2 < (-1000000) := (lg_cmp_lt _ _).mp c9
    exact g_throwS (cls := xIA) C hlf hP hS hl.1 (by decide) kcl_X3_79 kini_IllegalArgumentException ks_187 gat_83 gan_83 gao_83 dX3_tamper_20 dX3_tamper_23 dX3_tamper_24 dX3_tamper_26 dX3_tamper_29 ht (by decide) (by decide) (by decide) (by decide) (by decide) (Or.inr (Or.inl (⟨h1_0, n9, rfl, rfl, rfl⟩)))
  · have n9 : ¬ x2 < (-1000000) := (not_congr (lg_cmp_lt _ _)).mp c9
    refine lv_lload_n hx hb dX3_tamper_12 rfl (lv_at hl 2 rfl) ?_
    refine lv_ldc2 (v := 1000000) hx hb C.hown (C.hts _ kcn_X3_185) dX3_tamper_13 ?_
    refine W.lcmp hx hb dX3_tamper_16 ?_
    refine lv_if_le (tgt := 30) hx hb dX3_tamper_17 (by decide) (fun c17 => ?_) (fun c17 => ?_)
    · have n17 : x2 ≤ 1000000 := (lg_cmp_le _ _).mp c17
      refine lv_aload_n hx hb dX3_tamper_30 rfl (lv_at hl 0 rfl) ?_
      refine g_get (v := .ref (ad 1)) (T := TX3) C hP 0 0 (by decide) rfl rfl inwX3 (by decide) kf_X3_9 rfl dX3_tamper_31 ?_
      refine lv_iload_n hx hb dX3_tamper_34 rfl (lv_at hl 1 rfl) ?_
      refine g_lald (v := L 1 x1.toNatClampNeg) C hP 1 8 (by decide) (fun _ _ => rfl) x1.toNatClampNeg e1_0 rfl (by omega) (by decide) dX3_tamper_35 ?_
      refine lv_lload_n hx hb dX3_tamper_36 rfl (lv_at hl 2 rfl) ?_
      refine lv_ladd hx hb dX3_tamper_37 ?_
      refine lv_lstore (lv' := [(4, .long ((L 1 x1.toNatClampNeg) + x2)), (0, .ref (ad 0)), (1, .int x1), (2, .long x2)]) hx hb dX3_tamper_38 hl (by decide) rfl (fun ls hl => ?_)
      refine lv_lload hx hb dX3_tamper_40 (lv_at hl 0 rfl) ?_
      refine gM_callSi (As := [.long ((L 1 x1.toNatClampNeg) + x2)]) (rest := []) C hP hS hl.1 (ct_X3_isBeyondLimit l D cy ad hJ ((L 1 x1.toNatClampNeg) + x2) I L) fa_X3_isBeyondLimit kl_X3_117 kst_X3_isBeyondLimit rfl (by decide) (Nat.le_of_ble_eq_true rfl) (by decide) dX3_tamper_42 rfl (fun r42 I42 L42 H locs hq hP hS => ?_)
      rcases hq with ⟨h42_0, rfl, rfl, rfl⟩ | ⟨h42_0, h42_1, rfl, rfl, rfl⟩ | ⟨h42_0, h42_1, rfl, rfl, rfl⟩
      · refine lv_if_eq (tgt := 58) hx hb dX3_tamper_45 (by decide) (fun c => absurd c (by decide)) (fun c => ?_)
        exact g_throwS (cls := xIS) C hlf hP hS hl.1 (by decide) kcl_X3_61 kini_IllegalStateException ks_189 gat_65 gan_65 gao_65 dX3_tamper_48 dX3_tamper_51 dX3_tamper_52 dX3_tamper_54 dX3_tamper_57 ht (by decide) (by decide) (by decide) (by decide) (by decide) (Or.inr (Or.inr (Or.inl (⟨h1_0, n9, n17, h42_0, rfl, rfl, rfl⟩))))
      · refine lv_if_eq (tgt := 58) hx hb dX3_tamper_45 (by decide) (fun c => ?_) (fun c => absurd c (by decide))
        refine lv_aload_n hx hb dX3_tamper_58 rfl (lv_at hl 1 rfl) ?_
        refine g_get (v := .ref (ad 1)) (T := TX3) C hP 0 0 (by decide) rfl rfl inwX3 (by decide) kf_X3_9 rfl dX3_tamper_59 ?_
        refine lv_iload_n hx hb dX3_tamper_62 rfl (lv_at hl 2 rfl) ?_
        refine lv_lload hx hb dX3_tamper_63 (lv_at hl 0 rfl) ?_
        refine g_last C hP hS 1 8 (by decide) (fun _ _ => rfl) x1.toNatClampNeg e1_0 (by omega) (by decide) dX3_tamper_65 (fun H locs hP hS => ?_)
        refine lv_lload hx hb dX3_tamper_66 (lv_at hl 0 rfl) ?_
        exact gT_lret C hr hP hS (by decide) (by decide) dX3_tamper_68 (⟨h1_0, n9, n17, h42_0, h42_1, rfl, rfl, rfl⟩)
      · refine lv_if_eq (tgt := 58) hx hb dX3_tamper_45 (by decide) (fun c => absurd c (by decide)) (fun c => ?_)
        exact g_throwS (cls := xIS) C hlf hP hS hl.1 (by decide) kcl_X3_61 kini_IllegalStateException ks_189 gat_65 gan_65 gao_65 dX3_tamper_48 dX3_tamper_51 dX3_tamper_52 dX3_tamper_54 dX3_tamper_57 ht (by decide) (by decide) (by decide) (by decide) (by decide) (Or.inr (Or.inr (Or.inr (Or.inl (⟨h1_0, n9, n17, h42_0, h42_1, rfl, rfl, rfl⟩)))))
    · have n17 : ¬ x2 ≤ 1000000 := (not_congr (lg_cmp_le _ _)).mp c17
      exact g_throwS (cls := xIA) C hlf hP hS hl.1 (by decide) kcl_X3_79 kini_IllegalArgumentException ks_187 gat_83 gan_83 gao_83 dX3_tamper_20 dX3_tamper_23 dX3_tamper_24 dX3_tamper_26 dX3_tamper_29 ht (by decide) (by decide) (by decide) (by decide) (by decide) (Or.inr (Or.inr (Or.inr (Or.inr (⟨h1_0, n9, n17, rfl, rfl, rfl⟩)))))
def pq_X3_sound (ne : Nat) (I : MI) (L : ML) : Int32 → MI → ML → Prop := fun r I' L' => (¬ (gcn (L 1) (L (54 + ne)) 8) = 0 ∧ (0 : Int32) = r ∧ I = I' ∧ L = L') ∨ ((gcn (L 1) (L (54 + ne)) 8) = 0 ∧ (1 : Int32) = r ∧ I = I' ∧ L = L')
set_option maxRecDepth 100000 in
set_option maxHeartbeats 4000000 in
theorem ct_X3_sound (l : Launch) (D : va_G) (cy : Nat → ClassId) (ad : Nat → Nat) (hJ : gJ ad) (ne : Nat) (I : MI) (L : ML) (hne : I 0 6 = nI ne) (hne40 : ne ≤ 40) : gMi l D cy ad yX3_sound cX3_sound 1 .boolean (gR 1 0 0) [.ref (ad 0)] I L (pq_X3_sound ne I L) := by
  refine gMi_of hJ (by decide +kernel) kc_X3_sound (Nat.le_of_ble_eq_true rfl) (fun p e s m below meth c A ls C hr hP hS hl => ?_)
  have hx := C.hx
  have hb := C.hb
  have hl : lv_has ls 1 [(0, .ref (ad 0))] := hl
  refine lv_aload_n hx hb dX3_sound_0 rfl (lv_at hl 0 rfl) ?_
  refine gM_callVi (As := []) (rest := []) C hP hS hl.1 (ct_X3_countUnsoundBalances l D cy ad hJ ne I L hne hne40) fa_X3_countUnsoundBalances kl_X3_191 ki_X3_countUnsoundBalances kse_X3_countUnsoundBalances (by decide) (T := TX3) rfl rfl rfl (by decide) (Nat.le_of_ble_eq_true rfl) (by decide) dX3_sound_1 rfl (fun r1 I1 L1 H locs hq hP hS => ?_)
  obtain ⟨rfl, rfl, rfl⟩ := hq
  have hg8 := gcn_le (L 1) (L (54 + ne)) 8
  refine lv_if_ne (tgt := 11) hx hb dX3_sound_4 (by decide) (fun c4 => ?_) (fun c4 => ?_)
  · have n4 : ¬ (gcn (L 1) (L (54 + ne)) 8) = 0 := (not_congr (nI_eqqE rfl (show (0 : Int32) = nI 0 from rfl) (by omega) (by omega))).mp c4
    refine lv_iconst (v := 0) hx hb dX3_sound_11 (by decide) ?_
    exact gM_zret C hr narrow_b0 hP hS (by decide) (by decide) dX3_sound_12 (Or.inl (⟨n4, rfl, rfl, rfl⟩))
  · have n4 : (gcn (L 1) (L (54 + ne)) 8) = 0 := (nI_eqqE rfl (show (0 : Int32) = nI 0 from rfl) (by omega) (by omega)).mp c4
    refine lv_iconst (v := 1) hx hb dX3_sound_7 (by decide) ?_
    refine lv_goto (tgt := 12) hx hb dX3_sound_8 (by decide) ?_
    exact gM_zret C hr narrow_b1 hP hS (by decide) (by decide) dX3_sound_12 (Or.inr (⟨n4, rfl, rfl, rfl⟩))
def pq_X3_restore (ne : Nat) (x1 : Int32) (I : MI) (L : ML) : Int32 → MI → ML → Prop := fun r I' L' => vp_in x1 8 ∧ x1 < 2 ∧ nI (gcn (L 1) (L (54 + ne)) 8) = r ∧ I = I' ∧ (gRS L ne 8) = L'
def px_X3_restore (ne : Nat) (x1 : Int32) (I : MI) (L : ML) : String → MI → ML → Prop := fun E I' L' => (¬ vp_in x1 8 ∧ xIO = E ∧ I = I' ∧ L = L') ∨ (vp_in x1 8 ∧ ¬ x1 < 2 ∧ xUO = E ∧ I = I' ∧ L = L')
set_option maxRecDepth 100000 in
set_option maxHeartbeats 4000000 in
theorem ct_X3_restore (l : Launch) (D : va_G) (cy : Nat → ClassId) (ad : Nat → Nat) (hJ : gJ ad) (hlf : l.stackTraces = false) (ne : Nat) (x1 : Int32) (I : MI) (L : ML) (hne : I 0 6 = nI ne) (hne40 : ne ≤ 40) : gTi l D cy ad yX3_restore cX3_restore 4 .int (gR 1 2 12) [.ref (ad 0), .int x1] I L (pq_X3_restore ne x1 I L) (px_X3_restore ne x1 I L) := by
  refine gTi_of hJ (by decide +kernel) kc_X3_restore (Nat.le_of_ble_eq_true rfl) (fun p e s m below meth c A ls C hr ht hP hS hl => ?_)
  have hx := C.hx
  have hb := C.hb
  have hl : lv_has ls 4 [(0, .ref (ad 0)), (1, .int x1)] := hl
  refine lv_iload_n hx hb dX3_restore_0 rfl (lv_at hl 1 rfl) ?_
  refine gT_callSv (As := [.int x1]) (rest := []) C hP hS hl.1 (ct_X3_requireUser l D cy ad hJ hlf x1 I L) fa_X3_requireUser kl_X3_93 kst_X3_requireUser rfl (by decide) (Nat.le_of_ble_eq_true rfl) (by decide) (ht) (by decide) (fun E9 I9 L9 hx9 => Or.inl (hx9)) dX3_restore_1 rfl (fun I1 L1 H locs hq hP hS => ?_)
  obtain ⟨h1_0, rfl, rfl⟩ := hq
  obtain ⟨e1_0, l1_0⟩ := vp_ix h1_0
  refine lv_iload_n hx hb dX3_restore_4 rfl (lv_at hl 1 rfl) ?_
  refine gT_callSv (As := [.int x1]) (rest := []) C hP hS hl.1 (ct_X3_requireOfficer l D cy ad hJ hlf x1 I L) fa_X3_requireOfficer kl_X3_96 kst_X3_requireOfficer rfl (by decide) (Nat.le_of_ble_eq_true rfl) (by decide) (ht) (by decide) (fun E9 I9 L9 hx9 => Or.inr (⟨h1_0, hx9⟩)) dX3_restore_5 rfl (fun I5 L5 H locs hq hP hS => ?_)
  obtain ⟨h5_0, rfl, rfl⟩ := hq
  refine lv_aload_n hx hb dX3_restore_8 rfl (lv_at hl 0 rfl) ?_
  refine gM_callVi (As := []) (rest := []) C hP hS hl.1 (ct_X3_countUnsoundBalances l D cy ad hJ ne I L hne hne40) fa_X3_countUnsoundBalances kl_X3_191 ki_X3_countUnsoundBalances kse_X3_countUnsoundBalances (by decide) (T := TX3) rfl rfl rfl (by decide) (Nat.le_of_ble_eq_true rfl) (by decide) dX3_restore_9 rfl (fun r9 I9 L9 H locs hq hP hS => ?_)
  obtain ⟨rfl, rfl, rfl⟩ := hq
  have hg8 := gcn_le (L 1) (L (54 + ne)) 8
  refine lv_istore_n (lv' := [(2, .int (nI (gcn (L 1) (L (54 + ne)) 8))), (0, .ref (ad 0)), (1, .int x1)]) hx hb dX3_restore_12 rfl hl (by decide) rfl (fun ls hl => ?_)
  refine lv_iconst (v := 0) hx hb dX3_restore_13 (by decide) ?_
  refine lv_istore_n (lv' := [(3, .int 0), (2, .int (nI (gcn (L 1) (L (54 + ne)) 8))), (0, .ref (ad 0)), (1, .int x1)]) hx hb dX3_restore_14 rfl hl (by decide) rfl (fun ls hl => ?_)
  have loop15 : ∀ (N : Nat) (i : Nat) (hi : i ≤ 8) (hfu : 8 < i + N) (H : Heap) (locs : List Loc) (ls : Array Slot), gP D cy ad I (gRS L ne i) H → va_S A s.heap H locs → lv_has ls 4 [(0, .ref (ad 0)), (1, .int x1), (2, .int (nI (gcn (L 1) (L (54 + ne)) 8))), (3, .int (nI i))] → W p l e (gR 1 2 12) s m ([.ref (ad 0), .int x1] : List Value).toArray below meth c H locs 2 12 (vx_MQ below (gQi D cy ad A (pq_X3_restore ne x1 I L)) (gXC D cy ad A (px_X3_restore ne x1 I L)) ([.ref (ad 0), .int x1] : List Value).toArray s 2 12 A) (F0 m 15 ls []) := by
    intro N
    induction N with
    | zero =>
      intro i hi hfu
      exact absurd hfu (by omega)
    | succ N ih =>
      intro i hi hfu H locs ls hP hS hl
      refine lv_iload_n hx hb dX3_restore_15 rfl (lv_at hl 3 rfl) ?_
      refine lv_bipush (v := 8) hx hb dX3_restore_16 (by decide) ?_
      refine lv_icmp_ge (tgt := 44) hx hb dX3_restore_18 (by decide) (fun c18 => ?_) (fun c18 => ?_)
      · have n18 : 8 ≤ i := (nI_leeE (show (8 : Int32) = nI 8 from rfl) rfl (by omega) (by omega)).mp c18
        refine lv_iload_n hx hb dX3_restore_44 rfl (lv_at hl 2 rfl) ?_
        exact gT_iret C hr hP hS (by decide) (by decide) dX3_restore_45 (⟨h1_0, h5_0, rfl, rfl, by rw [show i = 8 by omega]⟩)  -- end 0: h1_0 : vp_in x1 8 ; h5_0 : x1 < 2 ; n18 : 8 ≤ i
      · have n18 : ¬ 8 ≤ i := (not_congr (nI_leeE (show (8 : Int32) = nI 8 from rfl) rfl (by omega) (by omega))).mp c18
        refine lv_aload_n hx hb dX3_restore_21 rfl (lv_at hl 0 rfl) ?_
        refine g_get (v := .ref (ad 1)) (T := TX3) C hP 0 0 (by decide) rfl rfl inwX3 (by decide) kf_X3_9 rfl dX3_restore_22 ?_
        refine lv_iload_n hx hb dX3_restore_25 rfl (lv_at hl 3 rfl) ?_
        refine lv_aload_n hx hb dX3_restore_26 rfl (lv_at hl 0 rfl) ?_
        refine g_get (v := .ref (ad 6)) (T := TX3) C hP 0 7 (by decide) rfl rfl inwX3 (by decide) kf_X3_43 rfl dX3_restore_27 ?_
        refine lv_aload_n hx hb dX3_restore_30 rfl (lv_at hl 0 rfl) ?_
        refine g_get (v := .int (nI ne)) (T := TX3) C hP 0 6 (by decide) rfl rfl inwX3 (by decide) kf_X3_38 (congrArg (fun z => some (Value.int z)) hne) dX3_restore_31 ?_
        refine g_aldT C hP ne rfl (by omega) dX3_restore_34 ?_
        refine lv_iload_n hx hb dX3_restore_35 rfl (lv_at hl 3 rfl) ?_
        refine g_lald (v := (gRS L ne i) (54 + ne) i) C hP (54 + ne) 8 (by omega) (kd_T (by omega)) i rfl rfl (by omega) (by decide) dX3_restore_36 ?_
        refine g_last C hP hS 1 8 (by decide) (fun _ _ => rfl) i rfl (by omega) (by decide) dX3_restore_37 (fun H locs hP hS => ?_)
        refine lv_iinc (v := nI (i + 1)) (lv' := [(3, .int (nI (i + 1))), (0, .ref (ad 0)), (1, .int x1), (2, .int (nI (gcn (L 1) (L (54 + ne)) 8)))]) hx hb dX3_restore_38 hl (k := 3) rfl (nI_1 _) (by decide) rfl (fun ls hl => ?_)
        refine lv_goto (tgt := 15) hx hb dX3_restore_41 (by decide) ?_
        rw [gRS_s _ _ _ (by omega)] at hP
        exact ih (i + 1) (by omega) (by omega) _ _ _ hP hS (lv_sub hl [1, 2, 3, 0] rfl)
  exact loop15 9 0 (Nat.zero_le _) (by omega) _ _ _ (by rw [gRS_0]; exact hP) hS (lv_sub hl [2, 3, 1, 0] rfl)
def pq_X3_balance (x1 : Int32) (I : MI) (L : ML) : Int64 → MI → ML → Prop := fun r I' L' => (vp_in x1 8 ∧ L 1 x1.toNatClampNeg = r ∧ I = I' ∧ L = L')
def px_X3_balance (x1 : Int32) (I : MI) (L : ML) : String → MI → ML → Prop := fun E I' L' => (¬ vp_in x1 8 ∧ xIO = E ∧ I = I' ∧ L = L')
set_option maxRecDepth 100000 in
set_option maxHeartbeats 4000000 in
theorem ct_X3_balance (l : Launch) (D : va_G) (cy : Nat → ClassId) (ad : Nat → Nat) (hJ : gJ ad) (hlf : l.stackTraces = false) (x1 : Int32) (I : MI) (L : ML) : gTl l D cy ad yX3_balance cX3_balance 2 .long (gR 1 1 6) [.ref (ad 0), .int x1] I L (pq_X3_balance x1 I L) (px_X3_balance x1 I L) := by
  refine gTl_of hJ (by decide +kernel) kc_X3_balance (Nat.le_of_ble_eq_true rfl) (fun p e s m below meth c A ls C hr ht hP hS hl => ?_)
  have hx := C.hx
  have hb := C.hb
  have hl : lv_has ls 2 [(0, .ref (ad 0)), (1, .int x1)] := hl
  refine lv_iload_n hx hb dX3_balance_0 rfl (lv_at hl 1 rfl) ?_
  refine gT_callSv (As := [.int x1]) (rest := []) C hP hS hl.1 (ct_X3_requireAccount l D cy ad hJ hlf x1 I L) fa_X3_requireAccount kl_X3_54 kst_X3_requireAccount rfl (by decide) (Nat.le_of_ble_eq_true rfl) (by decide) (ht) (by decide) (fun E9 I9 L9 hx9 => hx9) dX3_balance_1 rfl (fun I1 L1 H locs hq hP hS => ?_)
  obtain ⟨h1_0, rfl, rfl⟩ := hq
  obtain ⟨e1_0, l1_0⟩ := vp_ix h1_0
  refine lv_aload_n hx hb dX3_balance_4 rfl (lv_at hl 0 rfl) ?_
  refine g_get (v := .ref (ad 1)) (T := TX3) C hP 0 0 (by decide) rfl rfl inwX3 (by decide) kf_X3_9 rfl dX3_balance_5 ?_
  refine lv_iload_n hx hb dX3_balance_8 rfl (lv_at hl 1 rfl) ?_
  refine g_lald (v := L 1 x1.toNatClampNeg) C hP 1 8 (by decide) (fun _ _ => rfl) x1.toNatClampNeg e1_0 rfl (by omega) (by decide) dX3_balance_9 ?_
  exact gT_lret C hr hP hS (by decide) (by decide) dX3_balance_10 (⟨h1_0, rfl, rfl, rfl⟩)
def pq_X3_balanceAt (ne : Nat) (x1 : Int32) (x2 : Int32) (I : MI) (L : ML) : Int64 → MI → ML → Prop := fun r I' L' => (vp_in x1 8 ∧ ¬ x2 < 0 ∧ x2 ≤ (nI ne) ∧ L (54 + x2.toNatClampNeg) x1.toNatClampNeg = r ∧ I = I' ∧ L = L')
def px_X3_balanceAt (ne : Nat) (x1 : Int32) (x2 : Int32) (I : MI) (L : ML) : String → MI → ML → Prop := fun E I' L' => (¬ vp_in x1 8 ∧ xIO = E ∧ I = I' ∧ L = L') ∨ (vp_in x1 8 ∧ x2 < 0 ∧ xIO = E ∧ I = I' ∧ L = L') ∨ (vp_in x1 8 ∧ ¬ x2 < 0 ∧ ¬ x2 ≤ (nI ne) ∧ xIO = E ∧ I = I' ∧ L = L')
set_option maxRecDepth 100000 in
set_option maxHeartbeats 4000000 in
theorem ct_X3_balanceAt (l : Launch) (D : va_G) (cy : Nat → ClassId) (ad : Nat → Nat) (hJ : gJ ad) (hlf : l.stackTraces = false) (ne : Nat) (x1 : Int32) (x2 : Int32) (I : MI) (L : ML) (hne : I 0 6 = nI ne) (hne40 : ne ≤ 40) : gTl l D cy ad yX3_balanceAt cX3_balanceAt 3 .long (gR 1 2 12) [.ref (ad 0), .int x1, .int x2] I L (pq_X3_balanceAt ne x1 x2 I L) (px_X3_balanceAt ne x1 x2 I L) := by
  refine gTl_of hJ (by decide +kernel) kc_X3_balanceAt (Nat.le_of_ble_eq_true rfl) (fun p e s m below meth c A ls C hr ht hP hS hl => ?_)
  have hx := C.hx
  have hb := C.hb
  have hl : lv_has ls 3 [(0, .ref (ad 0)), (1, .int x1), (2, .int x2)] := hl
  refine lv_iload_n hx hb dX3_balanceAt_0 rfl (lv_at hl 1 rfl) ?_
  refine gT_callSv (As := [.int x1]) (rest := []) C hP hS hl.1 (ct_X3_requireAccount l D cy ad hJ hlf x1 I L) fa_X3_requireAccount kl_X3_54 kst_X3_requireAccount rfl (by decide) (Nat.le_of_ble_eq_true rfl) (by decide) (ht) (by decide) (fun E9 I9 L9 hx9 => Or.inl (hx9)) dX3_balanceAt_1 rfl (fun I1 L1 H locs hq hP hS => ?_)
  obtain ⟨h1_0, rfl, rfl⟩ := hq
  obtain ⟨e1_0, l1_0⟩ := vp_ix h1_0
  refine lv_iload_n hx hb dX3_balanceAt_4 rfl (lv_at hl 2 rfl) ?_
  refine lv_if_lt (tgt := 16) hx hb dX3_balanceAt_5 (by decide) (fun c5 => ?_) (fun c5 => ?_)
  · exact g_throwS (cls := xIO) C hlf hP hS hl.1 (by decide) kcl_X3_194 kini_IndexOutOfBoundsException ks_196 gat_198 gan_198 gao_198 dX3_balanceAt_16 dX3_balanceAt_19 dX3_balanceAt_20 dX3_balanceAt_22 dX3_balanceAt_25 ht (by decide) (by decide) (by decide) (by decide) (by decide) (Or.inr (Or.inl (⟨h1_0, c5, rfl, rfl, rfl⟩)))
  · refine lv_iload_n hx hb dX3_balanceAt_8 rfl (lv_at hl 2 rfl) ?_
    refine lv_aload_n hx hb dX3_balanceAt_9 rfl (lv_at hl 0 rfl) ?_
    refine g_get (v := .int (nI ne)) (T := TX3) C hP 0 6 (by decide) rfl rfl inwX3 (by decide) kf_X3_38 (congrArg (fun z => some (Value.int z)) hne) dX3_balanceAt_10 ?_
    refine lv_icmp_le (tgt := 26) hx hb dX3_balanceAt_13 (by decide) (fun c13 => ?_) (fun c13 => ?_)
    · have v26 : vp_in x2 (ne + 1) := vpA4 c5 c13 (by rw [nI_toInt (by omega)]; rfl)
      obtain ⟨e26, l26⟩ := vp_ix v26
      refine lv_aload_n hx hb dX3_balanceAt_26 rfl (lv_at hl 0 rfl) ?_
      refine g_get (v := .ref (ad 6)) (T := TX3) C hP 0 7 (by decide) rfl rfl inwX3 (by decide) kf_X3_43 rfl dX3_balanceAt_27 ?_
      refine lv_iload_n hx hb dX3_balanceAt_30 rfl (lv_at hl 2 rfl) ?_
      refine g_aldT C hP x2.toNatClampNeg e26 (by omega) dX3_balanceAt_31 ?_
      refine lv_iload_n hx hb dX3_balanceAt_32 rfl (lv_at hl 1 rfl) ?_
      refine g_lald (v := L (54 + x2.toNatClampNeg) x1.toNatClampNeg) C hP (54 + x2.toNatClampNeg) 8 (by omega) (kd_T (by omega)) x1.toNatClampNeg e1_0 rfl (by omega) (by decide) dX3_balanceAt_33 ?_
      exact gT_lret C hr hP hS (by decide) (by decide) dX3_balanceAt_34 (⟨h1_0, c5, c13, rfl, rfl, rfl⟩)
    · exact g_throwS (cls := xIO) C hlf hP hS hl.1 (by decide) kcl_X3_194 kini_IndexOutOfBoundsException ks_196 gat_198 gan_198 gao_198 dX3_balanceAt_16 dX3_balanceAt_19 dX3_balanceAt_20 dX3_balanceAt_22 dX3_balanceAt_25 ht (by decide) (by decide) (by decide) (by decide) (by decide) (Or.inr (Or.inr (⟨h1_0, c5, c13, rfl, rfl, rfl⟩)))
def pq_X3_entries (ne : Nat) (I : MI) (L : ML) : Int32 → MI → ML → Prop := fun r I' L' => (nI ne = r ∧ I = I' ∧ L = L')
set_option maxRecDepth 100000 in
set_option maxHeartbeats 4000000 in
theorem ct_X3_entries (l : Launch) (D : va_G) (cy : Nat → ClassId) (ad : Nat → Nat) (hJ : gJ ad) (ne : Nat) (I : MI) (L : ML) (hne : I 0 6 = nI ne) (hne40 : ne ≤ 40) : gMi l D cy ad yX3_entries cX3_entries 1 .int (gR 1 0 0) [.ref (ad 0)] I L (pq_X3_entries ne I L) := by
  refine gMi_of hJ (by decide +kernel) kc_X3_entries (Nat.le_of_ble_eq_true rfl) (fun p e s m below meth c A ls C hr hP hS hl => ?_)
  have hx := C.hx
  have hb := C.hb
  have hl : lv_has ls 1 [(0, .ref (ad 0))] := hl
  refine lv_aload_n hx hb dX3_entries_0 rfl (lv_at hl 0 rfl) ?_
  refine g_get (v := .int (nI ne)) (T := TX3) C hP 0 6 (by decide) rfl rfl inwX3 (by decide) kf_X3_38 (congrArg (fun z => some (Value.int z)) hne) dX3_entries_1 ?_
  exact gM_iret C hr hP hS (by decide) (by decide) dX3_entries_4 (⟨rfl, rfl, rfl⟩)
def pq_X3_entry (ne : Nat) (x1 : Int32) (x2 : Int32) (I : MI) (L : ML) : Int32 → MI → ML → Prop := fun r I' L' => (vp_in x1 ne ∧ x2 = 0 ∧ I (14 + x1.toNatClampNeg) 0 = r ∧ I = I' ∧ L = L') ∨ (vp_in x1 ne ∧ ¬ x2 = 0 ∧ x2 = 1 ∧ I (14 + x1.toNatClampNeg) 2 = r ∧ I = I' ∧ L = L') ∨ (vp_in x1 ne ∧ ¬ x2 = 0 ∧ ¬ x2 = 1 ∧ x2 = 2 ∧ I (14 + x1.toNatClampNeg) 3 = r ∧ I = I' ∧ L = L') ∨ (vp_in x1 ne ∧ ¬ x2 = 0 ∧ ¬ x2 = 1 ∧ ¬ x2 = 2 ∧ x2 = 3 ∧ I (14 + x1.toNatClampNeg) 4 = r ∧ I = I' ∧ L = L') ∨ (vp_in x1 ne ∧ ¬ x2 = 0 ∧ ¬ x2 = 1 ∧ ¬ x2 = 2 ∧ ¬ x2 = 3 ∧ x2 = 4 ∧ I (14 + x1.toNatClampNeg) 5 = r ∧ I = I' ∧ L = L')
def px_X3_entry (ne : Nat) (x1 : Int32) (x2 : Int32) (I : MI) (L : ML) : String → MI → ML → Prop := fun E I' L' => (¬ vp_in x1 ne ∧ xIO = E ∧ I = I' ∧ L = L') ∨ (vp_in x1 ne ∧ ¬ x2 = 0 ∧ ¬ x2 = 1 ∧ ¬ x2 = 2 ∧ ¬ x2 = 3 ∧ ¬ x2 = 4 ∧ xIO = E ∧ I = I' ∧ L = L')
set_option maxRecDepth 100000 in
set_option maxHeartbeats 4000000 in
theorem ct_X3_entry (l : Launch) (D : va_G) (cy : Nat → ClassId) (ad : Nat → Nat) (hJ : gJ ad) (hlf : l.stackTraces = false) (ne : Nat) (x1 : Int32) (x2 : Int32) (I : MI) (L : ML) (hne : I 0 6 = nI ne) (hne40 : ne ≤ 40) : gTi l D cy ad yX3_entry cX3_entry 4 .int (gR 1 2 12) [.ref (ad 0), .int x1, .int x2] I L (pq_X3_entry ne x1 x2 I L) (px_X3_entry ne x1 x2 I L) := by
  refine gTi_of hJ (by decide +kernel) kc_X3_entry (Nat.le_of_ble_eq_true rfl) (fun p e s m below meth c A ls C hr ht hP hS hl => ?_)
  have hx := C.hx
  have hb := C.hb
  have hl : lv_has ls 4 [(0, .ref (ad 0)), (1, .int x1), (2, .int x2)] := hl
  refine lv_aload_n hx hb dX3_entry_0 rfl (lv_at hl 0 rfl) ?_
  refine lv_iload_n hx hb dX3_entry_1 rfl (lv_at hl 1 rfl) ?_
  refine gT_callVv (As := [.int x1]) (rest := []) C hP hS hl.1 (ct_X3_requireEntry l D cy ad hJ hlf ne x1 I L hne hne40) fa_X3_requireEntry kl_X3_167 ki_X3_requireEntry kse_X3_requireEntry (by decide) (T := TX3) rfl rfl rfl (by decide) (Nat.le_of_ble_eq_true rfl) (by decide) (ht) (by decide) (fun E9 I9 L9 hx9 => Or.inl (hx9)) dX3_entry_2 rfl (fun I2 L2 H locs hq hP hS => ?_)
  obtain ⟨h2_0, rfl, rfl⟩ := hq
  obtain ⟨e2_0, l2_0⟩ := vp_ix h2_0
  refine lv_aload_n hx hb dX3_entry_5 rfl (lv_at hl 0 rfl) ?_
  refine g_get (v := .ref (ad 5)) (T := TX3) C hP 0 5 (by decide) rfl rfl inwX3 (by decide) kf_X3_34 rfl dX3_entry_6 ?_
  refine lv_iload_n hx hb dX3_entry_9 rfl (lv_at hl 1 rfl) ?_
  refine g_aldE C hP x1.toNatClampNeg e2_0 (by omega) dX3_entry_10 ?_
  refine lv_astore_n (lv' := [(3, .ref (ad (14 + x1.toNatClampNeg))), (0, .ref (ad 0)), (1, .int x1), (2, .int x2)]) hx hb dX3_entry_11 rfl hl (by decide) rfl (fun ls hl => ?_)
  refine lv_iload_n hx hb dX3_entry_12 rfl (lv_at hl 3 rfl) ?_
  by_cases t13_0 : x2 = 0
  · have z13 : x2.toInt = 0 := by rw [t13_0]; rfl
    refine lv_tableIn (tgt := 48) hx hb dX3_entry_13 (by omega) (by omega) (by rw [z13]; rfl) (by decide) ?_
    refine lv_aload_n hx hb dX3_entry_48 rfl (lv_at hl 0 rfl) ?_
    refine g_getN (v := .int (I (14 + x1.toNatClampNeg) 0)) (T := TX0) C hP (14 + x1.toNatClampNeg) 0 (by omega) (kd_E (by omega) _ _) rfl inwX0 (by decide) kn_f170 rfl dX3_entry_49 ?_
    exact gT_iret C hr hP hS (by decide) (by decide) dX3_entry_52 (Or.inl (⟨h2_0, t13_0, rfl, rfl, rfl⟩))
  by_cases t13_1 : x2 = 1
  · have z13 : x2.toInt = 1 := by rw [t13_1]; rfl
    refine lv_tableIn (tgt := 53) hx hb dX3_entry_13 (by omega) (by omega) (by rw [z13]; rfl) (by decide) ?_
    refine lv_aload_n hx hb dX3_entry_53 rfl (lv_at hl 0 rfl) ?_
    refine g_getN (v := .int (I (14 + x1.toNatClampNeg) 2)) (T := TX0) C hP (14 + x1.toNatClampNeg) 2 (by omega) (kd_E (by omega) _ _) rfl inwX0 (by decide) kn_f171 rfl dX3_entry_54 ?_
    exact gT_iret C hr hP hS (by decide) (by decide) dX3_entry_57 (Or.inr (Or.inl (⟨h2_0, t13_0, t13_1, rfl, rfl, rfl⟩)))
  by_cases t13_2 : x2 = 2
  · have z13 : x2.toInt = 2 := by rw [t13_2]; rfl
    refine lv_tableIn (tgt := 58) hx hb dX3_entry_13 (by omega) (by omega) (by rw [z13]; rfl) (by decide) ?_
    refine lv_aload_n hx hb dX3_entry_58 rfl (lv_at hl 0 rfl) ?_
    refine g_getN (v := .int (I (14 + x1.toNatClampNeg) 3)) (T := TX0) C hP (14 + x1.toNatClampNeg) 3 (by omega) (kd_E (by omega) _ _) rfl inwX0 (by decide) kn_f199 rfl dX3_entry_59 ?_
    exact gT_iret C hr hP hS (by decide) (by decide) dX3_entry_62 (Or.inr (Or.inr (Or.inl (⟨h2_0, t13_0, t13_1, t13_2, rfl, rfl, rfl⟩))))
  by_cases t13_3 : x2 = 3
  · have z13 : x2.toInt = 3 := by rw [t13_3]; rfl
    refine lv_tableIn (tgt := 63) hx hb dX3_entry_13 (by omega) (by omega) (by rw [z13]; rfl) (by decide) ?_
    refine lv_aload_n hx hb dX3_entry_63 rfl (lv_at hl 0 rfl) ?_
    refine g_getN (v := .int (I (14 + x1.toNatClampNeg) 4)) (T := TX0) C hP (14 + x1.toNatClampNeg) 4 (by omega) (kd_E (by omega) _ _) rfl inwX0 (by decide) kn_f174 rfl dX3_entry_64 ?_
    exact gT_iret C hr hP hS (by decide) (by decide) dX3_entry_67 (Or.inr (Or.inr (Or.inr (Or.inl (⟨h2_0, t13_0, t13_1, t13_2, t13_3, rfl, rfl, rfl⟩)))))
  by_cases t13_4 : x2 = 4
  · have z13 : x2.toInt = 4 := by rw [t13_4]; rfl
    refine lv_tableIn (tgt := 68) hx hb dX3_entry_13 (by omega) (by omega) (by rw [z13]; rfl) (by decide) ?_
    refine lv_aload_n hx hb dX3_entry_68 rfl (lv_at hl 0 rfl) ?_
    refine g_getN (v := .int (I (14 + x1.toNatClampNeg) 5)) (T := TX0) C hP (14 + x1.toNatClampNeg) 5 (by omega) (kd_E (by omega) _ _) rfl inwX0 (by decide) kn_f177 rfl dX3_entry_69 ?_
    exact gT_iret C hr hP hS (by decide) (by decide) dX3_entry_72 (Or.inr (Or.inr (Or.inr (Or.inr (⟨h2_0, t13_0, t13_1, t13_2, t13_3, t13_4, rfl, rfl, rfl⟩)))))
  have y13_0 : x2.toInt ≠ 0 := fun z => t13_0 (Int32.toInt_inj.mp (z.trans rfl))
  have y13_1 : x2.toInt ≠ 1 := fun z => t13_1 (Int32.toInt_inj.mp (z.trans rfl))
  have y13_2 : x2.toInt ≠ 2 := fun z => t13_2 (Int32.toInt_inj.mp (z.trans rfl))
  have y13_3 : x2.toInt ≠ 3 := fun z => t13_3 (Int32.toInt_inj.mp (z.trans rfl))
  have y13_4 : x2.toInt ≠ 4 := fun z => t13_4 (Int32.toInt_inj.mp (z.trans rfl))
  refine lv_tableOut (tgt := 73) hx hb dX3_entry_13 (by omega) (by decide) ?_
  exact g_throwS (cls := xIO) C hlf hP hS hl.1 (by decide) kcl_X3_194 kini_IndexOutOfBoundsException ks_202 gat_198 gan_198 gao_198 dX3_entry_73 dX3_entry_76 dX3_entry_77 dX3_entry_79 dX3_entry_82 ht (by decide) (by decide) (by decide) (by decide) (by decide) (Or.inr (⟨h2_0, t13_0, t13_1, t13_2, t13_3, t13_4, rfl, rfl, rfl⟩))
def pq_X3_amount (ne : Nat) (x1 : Int32) (I : MI) (L : ML) : Int64 → MI → ML → Prop := fun r I' L' => (vp_in x1 ne ∧ L (14 + x1.toNatClampNeg) 1 = r ∧ I = I' ∧ L = L')
def px_X3_amount (ne : Nat) (x1 : Int32) (I : MI) (L : ML) : String → MI → ML → Prop := fun E I' L' => (¬ vp_in x1 ne ∧ xIO = E ∧ I = I' ∧ L = L')
set_option maxRecDepth 100000 in
set_option maxHeartbeats 4000000 in
theorem ct_X3_amount (l : Launch) (D : va_G) (cy : Nat → ClassId) (ad : Nat → Nat) (hJ : gJ ad) (hlf : l.stackTraces = false) (ne : Nat) (x1 : Int32) (I : MI) (L : ML) (hne : I 0 6 = nI ne) (hne40 : ne ≤ 40) : gTl l D cy ad yX3_amount cX3_amount 2 .long (gR 1 1 6) [.ref (ad 0), .int x1] I L (pq_X3_amount ne x1 I L) (px_X3_amount ne x1 I L) := by
  refine gTl_of hJ (by decide +kernel) kc_X3_amount (Nat.le_of_ble_eq_true rfl) (fun p e s m below meth c A ls C hr ht hP hS hl => ?_)
  have hx := C.hx
  have hb := C.hb
  have hl : lv_has ls 2 [(0, .ref (ad 0)), (1, .int x1)] := hl
  refine lv_aload_n hx hb dX3_amount_0 rfl (lv_at hl 0 rfl) ?_
  refine lv_iload_n hx hb dX3_amount_1 rfl (lv_at hl 1 rfl) ?_
  refine gT_callVv (As := [.int x1]) (rest := []) C hP hS hl.1 (ct_X3_requireEntry l D cy ad hJ hlf ne x1 I L hne hne40) fa_X3_requireEntry kl_X3_167 ki_X3_requireEntry kse_X3_requireEntry (by decide) (T := TX3) rfl rfl rfl (by decide) (Nat.le_of_ble_eq_true rfl) (by decide) (ht) (by decide) (fun E9 I9 L9 hx9 => hx9) dX3_amount_2 rfl (fun I2 L2 H locs hq hP hS => ?_)
  obtain ⟨h2_0, rfl, rfl⟩ := hq
  obtain ⟨e2_0, l2_0⟩ := vp_ix h2_0
  refine lv_aload_n hx hb dX3_amount_5 rfl (lv_at hl 0 rfl) ?_
  refine g_get (v := .ref (ad 5)) (T := TX3) C hP 0 5 (by decide) rfl rfl inwX3 (by decide) kf_X3_34 rfl dX3_amount_6 ?_
  refine lv_iload_n hx hb dX3_amount_9 rfl (lv_at hl 1 rfl) ?_
  refine g_aldE C hP x1.toNatClampNeg e2_0 (by omega) dX3_amount_10 ?_
  refine g_getN (v := .long (L (14 + x1.toNatClampNeg) 1)) (T := TX0) C hP (14 + x1.toNatClampNeg) 1 (by omega) (kd_E (by omega) _ _) rfl inwX0 (by decide) kn_f182 rfl dX3_amount_11 ?_
  exact gT_lret C hr hP hS (by decide) (by decide) dX3_amount_14 (⟨h2_0, rfl, rfl, rfl⟩)
def pq_X3_requested (x1 : Int32) (I : MI) (L : ML) : Int32 → MI → ML → Prop := fun r I' L' => (¬ x1 < 0 ∧ x1 < 6 ∧ I (8 + x1.toNatClampNeg) 0 = r ∧ I = I' ∧ L = L')
def px_X3_requested (x1 : Int32) (I : MI) (L : ML) : String → MI → ML → Prop := fun E I' L' => (x1 < 0 ∧ xIO = E ∧ I = I' ∧ L = L') ∨ (¬ x1 < 0 ∧ ¬ x1 < 6 ∧ xIO = E ∧ I = I' ∧ L = L')
set_option maxRecDepth 100000 in
set_option maxHeartbeats 4000000 in
theorem ct_X3_requested (l : Launch) (D : va_G) (cy : Nat → ClassId) (ad : Nat → Nat) (hJ : gJ ad) (hlf : l.stackTraces = false) (x1 : Int32) (I : MI) (L : ML) : gTi l D cy ad yX3_requested cX3_requested 2 .int (gR 1 1 6) [.ref (ad 0), .int x1] I L (pq_X3_requested x1 I L) (px_X3_requested x1 I L) := by
  refine gTi_of hJ (by decide +kernel) kc_X3_requested (Nat.le_of_ble_eq_true rfl) (fun p e s m below meth c A ls C hr ht hP hS hl => ?_)
  have hx := C.hx
  have hb := C.hb
  have hl : lv_has ls 2 [(0, .ref (ad 0)), (1, .int x1)] := hl
  refine lv_iload_n hx hb dX3_requested_0 rfl (lv_at hl 1 rfl) ?_
  refine lv_if_lt (tgt := 10) hx hb dX3_requested_1 (by decide) (fun c1 => ?_) (fun c1 => ?_)
  · exact g_throwS (cls := xIO) C hlf hP hS hl.1 (by decide) kcl_X3_194 kini_IndexOutOfBoundsException ks_204 gat_198 gan_198 gao_198 dX3_requested_10 dX3_requested_13 dX3_requested_14 dX3_requested_16 dX3_requested_19 ht (by decide) (by decide) (by decide) (by decide) (by decide) (Or.inl (⟨c1, rfl, rfl, rfl⟩))
  · refine lv_iload_n hx hb dX3_requested_4 rfl (lv_at hl 1 rfl) ?_
    refine lv_bipush (v := 6) hx hb dX3_requested_5 (by decide) ?_
    refine lv_icmp_lt (tgt := 20) hx hb dX3_requested_7 (by decide) (fun c7 => ?_) (fun c7 => ?_)
    · have v20 : vp_in x1 6 := vpA2 c1 c7 rfl
      obtain ⟨e20, l20⟩ := vp_ix v20
      refine lv_aload_n hx hb dX3_requested_20 rfl (lv_at hl 0 rfl) ?_
      refine g_get (v := .ref (ad 4)) (T := TX3) C hP 0 4 (by decide) rfl rfl inwX3 (by decide) kf_X3_28 rfl dX3_requested_21 ?_
      refine lv_iload_n hx hb dX3_requested_24 rfl (lv_at hl 1 rfl) ?_
      refine g_aldQ C hP x1.toNatClampNeg e20 (by omega) dX3_requested_25 ?_
      refine g_getN (v := .int (I (8 + x1.toNatClampNeg) 0)) (T := TX2) C hP (8 + x1.toNatClampNeg) 0 (by omega) (kd_Q (by omega) _ _) rfl inwX2 (by decide) kn_f152 rfl dX3_requested_26 ?_
      exact gT_iret C hr hP hS (by decide) (by decide) dX3_requested_29 (⟨c1, c7, rfl, rfl, rfl⟩)
    · exact g_throwS (cls := xIO) C hlf hP hS hl.1 (by decide) kcl_X3_194 kini_IndexOutOfBoundsException ks_204 gat_198 gan_198 gao_198 dX3_requested_10 dX3_requested_13 dX3_requested_14 dX3_requested_16 dX3_requested_19 ht (by decide) (by decide) (by decide) (by decide) (by decide) (Or.inr (⟨c1, c7, rfl, rfl, rfl⟩))
