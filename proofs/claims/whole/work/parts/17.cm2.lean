def pq_X4_run (pp : Nat) (nn : Nat) (x1 : Int32) (x2 : Int64) (x4 : Int64) (I : MI) (L : ML) : Int32 → MI → ML → Prop := fun r I' L' => ((∀ k, k < nn → ¬ gfl (gmA I pp) (L 137) (L 138) (fun k => x4 * gpw x2 (gmS I pp) nn (L 153) k) k) ∧ 1 = r ∧ I = I' ∧ (gRM (va_up L 153 (gpw x2 (gmS I pp) nn (L 153))) (gmA I pp) (fun k => x4 * gpw x2 (gmS I pp) nn (L 153) k) nn) = L') ∨ (¬ (∀ k, k < nn → ¬ gfl (gmA I pp) (L 137) (L 138) (fun k => x4 * gpw x2 (gmS I pp) nn (L 153) k) k) ∧ 0 = r ∧ I = I' ∧ (va_up L 153 (gpw x2 (gmS I pp) nn (L 153))) = L')
set_option maxRecDepth 100000 in
set_option maxHeartbeats 4000000 in
theorem ct_X4_run (l : Launch) (D : va_G) (cy : Nat → ClassId) (ad : Nat → Nat) (hJ : gJ ad) (pp : Nat) (nn : Nat) (x1 : Int32) (x2 : Int64) (x4 : Int64) (I : MI) (L : ML) (hx1 : x1 = nI pp) (hp : pp < 10) (hn : I 139 pp = nI nn) (hn4 : nn ≤ 4) (ha : ∀ k, k < nn → vp_in (I 141 (4 * pp + k)) 8) (hd : gdis (gmA I pp) nn) : gMi l D cy ad yX4_run cX4_run 11 .boolean (gR 3 0 0) [.ref (ad 136), .int x1, .long x2, .long x4] I L (pq_X4_run pp nn x1 x2 x4 I L) := by
  refine gMi_of hJ (by decide +kernel) kc_X4_run (Nat.le_of_ble_eq_true rfl) (fun p e s m below meth c A ls C hr hP hS hl => ?_)
  have hx := C.hx
  have hb := C.hb
  have hl : lv_has ls 11 [(0, .ref (ad 136)), (1, .int x1), (2, .long x2), (4, .long x4)] := hl
  refine lv_aload_n hx hb dX4_run_0 rfl (lv_at hl 0 rfl) ?_
  refine lv_iload_n hx hb dX4_run_1 rfl (lv_at hl 1 rfl) ?_
  refine lv_lload_n hx hb dX4_run_2 rfl (lv_at hl 2 rfl) ?_
  refine gM_callVv (As := [.int x1, .long x2]) (rest := []) C hP hS hl.1 (ct_X4_findPosts l D cy ad hJ pp nn x1 x2 I L hx1 hp hn hn4) fa_X4_findPosts kl_X4_100 ki_X4_findPosts kse_X4_findPosts (by decide) (T := TX4) rfl rfl rfl (by decide) (Nat.le_of_ble_eq_true rfl) (by decide) dX4_run_3 rfl (fun I3 L3 H locs hq hP hS => ?_)
  obtain ⟨rfl, rfl⟩ := hq
  refine lv_iconst (v := 0) hx hb dX4_run_6 (by decide) ?_
  refine lv_istore (lv' := [(6, .int 0), (0, .ref (ad 136)), (1, .int x1), (2, .long x2), (4, .long x4)]) hx hb dX4_run_7 hl (by decide) rfl (fun ls hl => ?_)
  refine lv_iconst (v := 1) hx hb dX4_run_9 (by decide) ?_
  refine lv_istore (lv' := [(7, .int 1), (6, .int 0), (0, .ref (ad 136)), (1, .int x1), (2, .long x2), (4, .long x4)]) hx hb dX4_run_10 hl (by decide) rfl (fun ls hl => ?_)
  have loop12 : ∀ (N : Nat) (i : Nat) (hi : i ≤ nn) (hno : ∀ k, k < i → ¬ gfl (gmA I pp) (L 137) (L 138) (fun k => x4 * gpw x2 (gmS I pp) nn (L 153) k) k) (hfu : nn < i + N) (H : Heap) (locs : List Loc) (ls : Array Slot), gP D cy ad I (gRM (va_up L 153 (gpw x2 (gmS I pp) nn (L 153))) (gmA I pp) (fun k => x4 * gpw x2 (gmS I pp) nn (L 153) k) i) H → va_S A s.heap H locs → lv_has ls 11 [(0, .ref (ad 136)), (1, .int x1), (2, .long x2), (4, .long x4), (6, .int (nI i)), (7, .int 1)] → W p l e (gR 3 0 0) s m ([.ref (ad 136), .int x1, .long x2, .long x4] : List Value).toArray below meth c H locs 0 0 (MQ below (gQi D cy ad A (pq_X4_run pp nn x1 x2 x4 I L)) ([.ref (ad 136), .int x1, .long x2, .long x4] : List Value).toArray s 0 0 A) (F0 m 12 ls []) := by
    intro N
    induction N with
    | zero =>
      intro i hi hno hfu
      exact absurd hfu (by omega)
    | succ N ih12 =>
      intro i hi hno hfu H locs ls hP hS hl
      refine lv_iload hx hb dX4_run_12 (lv_at hl 4 rfl) ?_
      refine lv_aload_n hx hb dX4_run_14 rfl (lv_at hl 0 rfl) ?_
      refine g_get (v := .ref (ad 139)) (T := TX4) C hP 136 4 (by decide) rfl rfl inwX4 (by decide) kf_X4_16 rfl dX4_run_15 ?_
      refine lv_iload_n hx hb dX4_run_18 rfl (lv_at hl 1 rfl) ?_
      refine g_iald (v := nI nn) C hP 139 10 (by decide) (fun _ _ => rfl) pp hx1 hn (by omega) (by decide) dX4_run_19 ?_
      refine lv_icmp_ge (tgt := 123) hx hb dX4_run_20 (by decide) (fun c20 => ?_) (fun c20 => ?_)
      · have n20 : nn ≤ i := (nI_leeE rfl rfl (by omega) (by omega)).mp c20
        refine lv_iconst (v := 0) hx hb dX4_run_123 (by decide) ?_
        refine lv_istore (lv' := [(8, .int 0), (0, .ref (ad 136)), (1, .int x1), (2, .long x2), (4, .long x4), (6, .int (nI i)), (7, .int 1)]) hx hb dX4_run_124 hl (by decide) rfl (fun ls hl => ?_)
        refine lv_iload hx hb dX4_run_126 (lv_at hl 0 rfl) ?_
        refine lv_iload hx hb dX4_run_128 (lv_at hl 5 rfl) ?_
        refine lv_icmp_ge (tgt := 182) hx hb dX4_run_130 (by decide) (fun c130 => ?_) (fun c130 => ?_)
        · have n130 : i ≤ 0 := (nI_leeE rfl (show (0 : Int32) = nI 0 from rfl) (by omega) (by omega)).mp c130
          refine lv_iload hx hb dX4_run_182 (lv_at hl 6 rfl) ?_
          exact gM_zret C hr narrow_b1 hP hS (by decide) (by decide) dX4_run_184 (Or.inl ⟨fun k hk => hno k (by omega), rfl, rfl, by rw [show nn = i by omega]⟩)  -- end 0: n20 : nn ≤ i ; n130 : i ≤ 0
        · have n130 : ¬ i ≤ 0 := (not_congr (nI_leeE rfl (show (0 : Int32) = nI 0 from rfl) (by omega) (by omega))).mp c130
          refine lv_iload hx hb dX4_run_133 (lv_at hl 6 rfl) ?_
          refine lv_if_ne (tgt := 182) hx hb dX4_run_135 (by decide) (fun _ => ?_) (fun c => absurd c (by decide))
          refine lv_iload hx hb dX4_run_182 (lv_at hl 6 rfl) ?_
          exact gM_zret C hr narrow_b1 hP hS (by decide) (by decide) dX4_run_184 (Or.inl ⟨fun k hk => hno k (by omega), rfl, rfl, by rw [show nn = i by omega]⟩)  -- end 1: n20 : nn ≤ i ; n130 : ¬ i ≤ 0
      · have n20 : ¬ nn ≤ i := (not_congr (nI_leeE rfl rfl (by omega) (by omega))).mp c20
        refine lv_iload hx hb dX4_run_23 (lv_at hl 5 rfl) ?_
        refine lv_if_eq (tgt := 123) hx hb dX4_run_25 (by decide) (fun c => absurd c (by decide)) (fun _ => ?_)
        refine lv_aload_n hx hb dX4_run_28 rfl (lv_at hl 0 rfl) ?_
        refine g_get (v := .ref (ad 141)) (T := TX4) C hP 136 6 (by decide) rfl rfl inwX4 (by decide) kf_X4_23 rfl dX4_run_29 ?_
        refine lv_iconst (v := 4) hx hb dX4_run_32 (by decide) ?_
        refine lv_iload_n hx hb dX4_run_33 rfl (lv_at hl 1 rfl) ?_
        refine lv_imul hx hb dX4_run_34 ?_
        refine lv_iload hx hb dX4_run_35 (lv_at hl 4 rfl) ?_
        refine lv_iadd hx hb dX4_run_37 ?_
        refine g_iald (v := I 141 ((4 * pp) + i)) C hP 141 40 (by decide) (fun _ _ => rfl) ((4 * pp) + i) (nI_addE (nI_mulE (show (4 : Int32) = nI 4 from rfl) hx1) rfl) rfl (by omega) (by decide) dX4_run_38 ?_
        obtain ⟨e39, l39⟩ := vp_ix (ha i (by omega))
        refine lv_istore (lv' := [(8, .int (I 141 ((4 * pp) + i))), (0, .ref (ad 136)), (1, .int x1), (2, .long x2), (4, .long x4), (6, .int (nI i)), (7, .int 1)]) hx hb dX4_run_39 hl (by decide) rfl (fun ls hl => ?_)
        refine lv_aload_n hx hb dX4_run_41 rfl (lv_at hl 1 rfl) ?_
        refine g_get (v := .ref (ad 137)) (T := TX4) C hP 136 1 (by decide) rfl rfl inwX4 (by decide) kf_X4_7 rfl dX4_run_42 ?_
        refine lv_iload hx hb dX4_run_45 (lv_at hl 0 rfl) ?_
        refine g_lald (v := L 137 ((I 141 ((4 * pp) + i)).toNatClampNeg)) C hP 137 8 (by decide) (fun _ _ => rfl) ((I 141 ((4 * pp) + i)).toNatClampNeg) e39 (gRM_a (L := (va_up L 153 (gpw x2 (gmS I pp) nn (L 153)))) (po := (fun k => x4 * gpw x2 (gmS I pp) nn (L 153) k)) hd (by omega)) (by omega) (by decide) dX4_run_47 ?_
        refine lv_lload hx hb dX4_run_48 (lv_at hl 4 rfl) ?_
        refine lv_aload_n hx hb dX4_run_50 rfl (lv_at hl 1 rfl) ?_
        refine g_get (v := .ref (ad 153)) (T := TX4) C hP 136 19 (by decide) rfl rfl inwX4 (by decide) kf_X4_60 rfl dX4_run_51 ?_
        refine lv_iload hx hb dX4_run_54 (lv_at hl 5 rfl) ?_
        refine g_lald (v := gpw x2 (gmS I pp) nn (L 153) i) C hP 153 4 (by decide) (fun _ _ => rfl) i rfl rfl (by omega) (by decide) dX4_run_56 ?_
        refine lv_lmul hx hb dX4_run_57 ?_
        refine lv_ladd hx hb dX4_run_58 ?_
        refine lv_lstore (lv' := [(9, .long ((L 137 ((I 141 ((4 * pp) + i)).toNatClampNeg)) + (x4 * (gpw x2 (gmS I pp) nn (L 153) i)))), (8, .int (I 141 ((4 * pp) + i))), (0, .ref (ad 136)), (1, .int x1), (2, .long x2), (4, .long x4), (6, .int (nI i)), (7, .int 1)]) hx hb dX4_run_59 hl (by decide) rfl (fun ls hl => ?_)
        refine lv_lload hx hb dX4_run_61 (lv_at hl 0 rfl) ?_
        refine lv_ldc2 (v := 1000000000000) hx hb C.hown (C.hts _ kcn_X4_96) dX4_run_63 ?_
        refine W.lcmp hx hb dX4_run_66 ?_
        refine lv_if_gt (tgt := 100) hx hb dX4_run_67 (by decide) (fun c67 => ?_) (fun c67 => ?_)
        · have n67 : 1000000000000 < ((L 137 ((I 141 ((4 * pp) + i)).toNatClampNeg)) + (x4 * (gpw x2 (gmS I pp) nn (L 153) i))) := (lg_cmp_gt _ _).mp c67
          refine lv_iconst (v := 0) hx hb dX4_run_100 (by decide) ?_
          refine lv_istore (lv' := [(7, .int 0), (9, .long ((L 137 ((I 141 ((4 * pp) + i)).toNatClampNeg)) + (x4 * (gpw x2 (gmS I pp) nn (L 153) i)))), (8, .int (I 141 ((4 * pp) + i))), (0, .ref (ad 136)), (1, .int x1), (2, .long x2), (4, .long x4), (6, .int (nI i))]) hx hb dX4_run_101 hl (by decide) rfl (fun ls hl => ?_)
          refine lv_iload hx hb dX4_run_103 (lv_at hl 0 rfl) ?_
          refine lv_if_eq (tgt := 120) hx hb dX4_run_105 (by decide) (fun _ => ?_) (fun c => absurd c (by decide))
          refine lv_goto (tgt := 12) hx hb dX4_run_120 (by decide) ?_
          refine lv_iload hx hb dX4_run_12 (lv_at hl 7 rfl) ?_
          refine lv_aload_n hx hb dX4_run_14 rfl (lv_at hl 3 rfl) ?_
          refine g_get (v := .ref (ad 139)) (T := TX4) C hP 136 4 (by decide) rfl rfl inwX4 (by decide) kf_X4_16 rfl dX4_run_15 ?_
          refine lv_iload_n hx hb dX4_run_18 rfl (lv_at hl 4 rfl) ?_
          refine g_iald (v := nI nn) C hP 139 10 (by decide) (fun _ _ => rfl) pp hx1 hn (by omega) (by decide) dX4_run_19 ?_
          refine lv_icmp_ge (tgt := 123) hx hb dX4_run_20 (by decide) (fun c20 => absurd ((nI_leeE rfl rfl (by omega) (by omega)).mp c20) n20) (fun c20 => ?_)
          have n20 : ¬ nn ≤ i := (not_congr (nI_leeE rfl rfl (by omega) (by omega))).mp c20
          refine lv_iload hx hb dX4_run_23 (lv_at hl 0 rfl) ?_
          refine lv_if_eq (tgt := 123) hx hb dX4_run_25 (by decide) (fun _ => ?_) (fun c => absurd c (by decide))
          refine lv_iconst (v := 0) hx hb dX4_run_123 (by decide) ?_
          refine lv_istore (lv' := [(8, .int 0), (7, .int 0), (9, .long ((L 137 ((I 141 ((4 * pp) + i)).toNatClampNeg)) + (x4 * (gpw x2 (gmS I pp) nn (L 153) i)))), (0, .ref (ad 136)), (1, .int x1), (2, .long x2), (4, .long x4), (6, .int (nI i))]) hx hb dX4_run_124 hl (by decide) rfl (fun ls hl => ?_)
          have loop126 : ∀ (N : Nat) (k : Nat) (hk : k ≤ i) (hfu : i < k + N) (H : Heap) (locs : List Loc) (ls : Array Slot), gP D cy ad I (gUM (va_up L 153 (gpw x2 (gmS I pp) nn (L 153))) (gmA I pp) (fun k => x4 * gpw x2 (gmS I pp) nn (L 153) k) i k) H → va_S A s.heap H locs → lv_has ls 11 [(0, .ref (ad 136)), (1, .int x1), (2, .long x2), (4, .long x4), (6, .int (nI i)), (7, .int 0), (8, .int (nI k))] → W p l e (gR 3 0 0) s m ([.ref (ad 136), .int x1, .long x2, .long x4] : List Value).toArray below meth c H locs 0 0 (MQ below (gQi D cy ad A (pq_X4_run pp nn x1 x2 x4 I L)) ([.ref (ad 136), .int x1, .long x2, .long x4] : List Value).toArray s 0 0 A) (F0 m 126 ls []) := by
            intro N
            induction N with
            | zero =>
              intro k hk hfu
              exact absurd hfu (by omega)
            | succ N ih126 =>
              intro k hk hfu H locs ls hP hS hl
              refine lv_iload hx hb dX4_run_126 (lv_at hl 6 rfl) ?_
              refine lv_iload hx hb dX4_run_128 (lv_at hl 4 rfl) ?_
              refine lv_icmp_ge (tgt := 182) hx hb dX4_run_130 (by decide) (fun c130 => ?_) (fun c130 => ?_)
              · have n130 : i ≤ k := (nI_leeE rfl rfl (by omega) (by omega)).mp c130
                refine lv_iload hx hb dX4_run_182 (lv_at hl 5 rfl) ?_
                exact gM_zret C hr narrow_b0 hP hS (by decide) (by decide) dX4_run_184 (Or.inr ⟨fun z => z i (by omega) (Or.inl n67), rfl, rfl, by rw [show k = i by omega]; exact (gUM_i _ _ _ _).symm⟩)  -- end 2: n20 : ¬ nn ≤ i ; n67 : 1000000000000 < ((L 137 ((I 141 ((4 * pp) + i)).toNatClampNeg)) + (x4 * (gpw x2 (gmS I pp) nn (L 153) i))) ; n20 : ¬ nn ≤ i ; n130 : i ≤ k
              · have n130 : ¬ i ≤ k := (not_congr (nI_leeE rfl rfl (by omega) (by omega))).mp c130
                refine lv_iload hx hb dX4_run_133 (lv_at hl 5 rfl) ?_
                refine lv_if_ne (tgt := 182) hx hb dX4_run_135 (by decide) (fun c => absurd c (by decide)) (fun _ => ?_)
                refine lv_aload_n hx hb dX4_run_138 rfl (lv_at hl 0 rfl) ?_
                refine g_get (v := .ref (ad 141)) (T := TX4) C hP 136 6 (by decide) rfl rfl inwX4 (by decide) kf_X4_23 rfl dX4_run_139 ?_
                refine lv_iconst (v := 4) hx hb dX4_run_142 (by decide) ?_
                refine lv_iload_n hx hb dX4_run_143 rfl (lv_at hl 1 rfl) ?_
                refine lv_imul hx hb dX4_run_144 ?_
                refine lv_iload hx hb dX4_run_145 (lv_at hl 6 rfl) ?_
                refine lv_iadd hx hb dX4_run_147 ?_
                refine g_iald (v := I 141 ((4 * pp) + k)) C hP 141 40 (by decide) (fun _ _ => rfl) ((4 * pp) + k) (nI_addE (nI_mulE (show (4 : Int32) = nI 4 from rfl) hx1) rfl) rfl (by omega) (by decide) dX4_run_148 ?_
                obtain ⟨e149, l149⟩ := vp_ix (ha k (by omega))
                refine lv_istore (lv' := [(9, .int (I 141 ((4 * pp) + k))), (0, .ref (ad 136)), (1, .int x1), (2, .long x2), (4, .long x4), (6, .int (nI i)), (7, .int 0), (8, .int (nI k))]) hx hb dX4_run_149 hl (by decide) rfl (fun ls hl => ?_)
                refine lv_aload_n hx hb dX4_run_151 rfl (lv_at hl 1 rfl) ?_
                refine g_get (v := .ref (ad 137)) (T := TX4) C hP 136 1 (by decide) rfl rfl inwX4 (by decide) kf_X4_7 rfl dX4_run_152 ?_
                refine lv_iload hx hb dX4_run_155 (lv_at hl 0 rfl) ?_
                refine lv_aload_n hx hb dX4_run_157 rfl (lv_at hl 1 rfl) ?_
                refine g_get (v := .ref (ad 137)) (T := TX4) C hP 136 1 (by decide) rfl rfl inwX4 (by decide) kf_X4_7 rfl dX4_run_158 ?_
                refine lv_iload hx hb dX4_run_161 (lv_at hl 0 rfl) ?_
                refine g_lald (v := (gUM (va_up L 153 (gpw x2 (gmS I pp) nn (L 153))) (gmA I pp) (fun k => x4 * gpw x2 (gmS I pp) nn (L 153) k) i k) 137 ((I 141 ((4 * pp) + k)).toNatClampNeg)) C hP 137 8 (by decide) (fun _ _ => rfl) ((I 141 ((4 * pp) + k)).toNatClampNeg) e149 rfl (by omega) (by decide) dX4_run_163 ?_
                refine lv_lload hx hb dX4_run_164 (lv_at hl 4 rfl) ?_
                refine lv_aload_n hx hb dX4_run_166 rfl (lv_at hl 1 rfl) ?_
                refine g_get (v := .ref (ad 153)) (T := TX4) C hP 136 19 (by decide) rfl rfl inwX4 (by decide) kf_X4_60 rfl dX4_run_167 ?_
                refine lv_iload hx hb dX4_run_170 (lv_at hl 7 rfl) ?_
                refine g_lald (v := gpw x2 (gmS I pp) nn (L 153) k) C hP 153 4 (by decide) (fun _ _ => rfl) k rfl rfl (by omega) (by decide) dX4_run_172 ?_
                refine lv_lmul hx hb dX4_run_173 ?_
                refine lv_lsub hx hb dX4_run_174 ?_
                refine g_last C hP hS 137 8 (by decide) (fun _ _ => rfl) ((I 141 ((4 * pp) + k)).toNatClampNeg) e149 (by omega) (by decide) dX4_run_175 (fun H locs hP hS => ?_)
                refine lv_iinc (v := nI (k + 1)) (lv' := [(8, .int (nI (k + 1))), (9, .int (I 141 ((4 * pp) + k))), (0, .ref (ad 136)), (1, .int x1), (2, .long x2), (4, .long x4), (6, .int (nI i)), (7, .int 0)]) hx hb dX4_run_176 hl (k := 7) rfl (nI_1 _) (by decide) rfl (fun ls hl => ?_)
                refine lv_goto (tgt := 126) hx hb dX4_run_179 (by decide) ?_
                have e179 : (sL (gUM (va_up L 153 (gpw x2 (gmS I pp) nn (L 153))) (gmA I pp) (fun k => x4 * gpw x2 (gmS I pp) nn (L 153) k) i k) 137 ((I 141 ((4 * pp) + k)).toNatClampNeg) (((gUM (va_up L 153 (gpw x2 (gmS I pp) nn (L 153))) (gmA I pp) (fun k => x4 * gpw x2 (gmS I pp) nn (L 153) k) i k) 137 ((I 141 ((4 * pp) + k)).toNatClampNeg)) - (x4 * (gpw x2 (gmS I pp) nn (L 153) k)))) = (gUM (va_up L 153 (gpw x2 (gmS I pp) nn (L 153))) (gmA I pp) (fun k => x4 * gpw x2 (gmS I pp) nn (L 153) k) i (k + 1)) := gUM_s _ _ _ _ _ _ rfl
                rw [e179] at hP
                exact ih126 (k + 1) (by omega) (by omega) _ _ _ hP hS (lv_sub hl [2, 3, 4, 5, 6, 7, 0] rfl)
          exact loop126 (i + 1) 0 (Nat.zero_le _) (by omega) _ _ _ (by rw [gUM_0]; exact hP) hS (lv_sub hl [3, 4, 5, 6, 7, 1, 0] rfl)
        · have n67 : ¬ 1000000000000 < ((L 137 ((I 141 ((4 * pp) + i)).toNatClampNeg)) + (x4 * (gpw x2 (gmS I pp) nn (L 153) i))) := (not_congr (lg_cmp_gt _ _)).mp c67
          refine lv_lload hx hb dX4_run_70 (lv_at hl 0 rfl) ?_
          refine lv_aload_n hx hb dX4_run_72 rfl (lv_at hl 2 rfl) ?_
          refine g_get (v := .ref (ad 138)) (T := TX4) C hP 136 2 (by decide) rfl rfl inwX4 (by decide) kf_X4_13 rfl dX4_run_73 ?_
          refine lv_iload hx hb dX4_run_76 (lv_at hl 1 rfl) ?_
          refine g_lald (v := L 138 ((I 141 ((4 * pp) + i)).toNatClampNeg)) C hP 138 8 (by decide) (fun _ _ => rfl) ((I 141 ((4 * pp) + i)).toNatClampNeg) e39 rfl (by omega) (by decide) dX4_run_78 ?_
          refine W.lcmp hx hb dX4_run_79 ?_
          refine lv_if_ge (tgt := 96) hx hb dX4_run_80 (by decide) (fun c80 => ?_) (fun c80 => ?_)
          · have n80 : (L 138 ((I 141 ((4 * pp) + i)).toNatClampNeg)) ≤ ((L 137 ((I 141 ((4 * pp) + i)).toNatClampNeg)) + (x4 * (gpw x2 (gmS I pp) nn (L 153) i))) := (lg_cmp_ge _ _).mp c80
            refine lv_iconst (v := 1) hx hb dX4_run_96 (by decide) ?_
            refine lv_goto (tgt := 101) hx hb dX4_run_97 (by decide) ?_
            refine lv_istore (lv' := [(7, .int 1), (9, .long ((L 137 ((I 141 ((4 * pp) + i)).toNatClampNeg)) + (x4 * (gpw x2 (gmS I pp) nn (L 153) i)))), (8, .int (I 141 ((4 * pp) + i))), (0, .ref (ad 136)), (1, .int x1), (2, .long x2), (4, .long x4), (6, .int (nI i))]) hx hb dX4_run_101 hl (by decide) rfl (fun ls hl => ?_)
            refine lv_iload hx hb dX4_run_103 (lv_at hl 0 rfl) ?_
            refine lv_if_eq (tgt := 120) hx hb dX4_run_105 (by decide) (fun c => absurd c (by decide)) (fun _ => ?_)
            refine lv_aload_n hx hb dX4_run_108 rfl (lv_at hl 3 rfl) ?_
            refine g_get (v := .ref (ad 137)) (T := TX4) C hP 136 1 (by decide) rfl rfl inwX4 (by decide) kf_X4_7 rfl dX4_run_109 ?_
            refine lv_iload hx hb dX4_run_112 (lv_at hl 2 rfl) ?_
            refine lv_lload hx hb dX4_run_114 (lv_at hl 1 rfl) ?_
            refine g_last C hP hS 137 8 (by decide) (fun _ _ => rfl) ((I 141 ((4 * pp) + i)).toNatClampNeg) e39 (by omega) (by decide) dX4_run_116 (fun H locs hP hS => ?_)
            refine lv_iinc (v := nI (i + 1)) (lv' := [(6, .int (nI (i + 1))), (7, .int 1), (9, .long ((L 137 ((I 141 ((4 * pp) + i)).toNatClampNeg)) + (x4 * (gpw x2 (gmS I pp) nn (L 153) i)))), (8, .int (I 141 ((4 * pp) + i))), (0, .ref (ad 136)), (1, .int x1), (2, .long x2), (4, .long x4)]) hx hb dX4_run_117 hl (k := 7) rfl (nI_1 _) (by decide) rfl (fun ls hl => ?_)
            refine lv_goto (tgt := 12) hx hb dX4_run_120 (by decide) ?_
            have e120 : (sL (gRM (va_up L 153 (gpw x2 (gmS I pp) nn (L 153))) (gmA I pp) (fun k => x4 * gpw x2 (gmS I pp) nn (L 153) k) i) 137 ((I 141 ((4 * pp) + i)).toNatClampNeg) ((L 137 ((I 141 ((4 * pp) + i)).toNatClampNeg)) + (x4 * (gpw x2 (gmS I pp) nn (L 153) i)))) = (gRM (va_up L 153 (gpw x2 (gmS I pp) nn (L 153))) (gmA I pp) (fun k => x4 * gpw x2 (gmS I pp) nn (L 153) k) (i + 1)) := gRM_s (L := (va_up L 153 (gpw x2 (gmS I pp) nn (L 153)))) (po := (fun k => x4 * gpw x2 (gmS I pp) nn (L 153) k)) hd (by omega)
            rw [e120] at hP
            exact ih12 (i + 1) (by omega) (lt_s hno (fun z => z.elim (fun z => n67 z) (fun z => Int64.not_lt.mpr n80 z.1))) (by omega) _ _ _ hP hS (lv_sub hl [4, 5, 6, 7, 0, 1] rfl)
          · have n80 : ¬ (L 138 ((I 141 ((4 * pp) + i)).toNatClampNeg)) ≤ ((L 137 ((I 141 ((4 * pp) + i)).toNatClampNeg)) + (x4 * (gpw x2 (gmS I pp) nn (L 153) i))) := (not_congr (lg_cmp_ge _ _)).mp c80
            refine lv_lload hx hb dX4_run_83 (lv_at hl 0 rfl) ?_
            refine lv_aload_n hx hb dX4_run_85 rfl (lv_at hl 2 rfl) ?_
            refine g_get (v := .ref (ad 137)) (T := TX4) C hP 136 1 (by decide) rfl rfl inwX4 (by decide) kf_X4_7 rfl dX4_run_86 ?_
            refine lv_iload hx hb dX4_run_89 (lv_at hl 1 rfl) ?_
            refine g_lald (v := L 137 ((I 141 ((4 * pp) + i)).toNatClampNeg)) C hP 137 8 (by decide) (fun _ _ => rfl) ((I 141 ((4 * pp) + i)).toNatClampNeg) e39 (gRM_a (L := (va_up L 153 (gpw x2 (gmS I pp) nn (L 153)))) (po := (fun k => x4 * gpw x2 (gmS I pp) nn (L 153) k)) hd (by omega)) (by omega) (by decide) dX4_run_91 ?_
            refine W.lcmp hx hb dX4_run_92 ?_
            refine lv_if_lt (tgt := 100) hx hb dX4_run_93 (by decide) (fun c93 => ?_) (fun c93 => ?_)
            · have n93 : ((L 137 ((I 141 ((4 * pp) + i)).toNatClampNeg)) + (x4 * (gpw x2 (gmS I pp) nn (L 153) i))) < (L 137 ((I 141 ((4 * pp) + i)).toNatClampNeg)) := (lg_cmp_lt _ _).mp c93
              refine lv_iconst (v := 0) hx hb dX4_run_100 (by decide) ?_
              refine lv_istore (lv' := [(7, .int 0), (9, .long ((L 137 ((I 141 ((4 * pp) + i)).toNatClampNeg)) + (x4 * (gpw x2 (gmS I pp) nn (L 153) i)))), (8, .int (I 141 ((4 * pp) + i))), (0, .ref (ad 136)), (1, .int x1), (2, .long x2), (4, .long x4), (6, .int (nI i))]) hx hb dX4_run_101 hl (by decide) rfl (fun ls hl => ?_)
              refine lv_iload hx hb dX4_run_103 (lv_at hl 0 rfl) ?_
              refine lv_if_eq (tgt := 120) hx hb dX4_run_105 (by decide) (fun _ => ?_) (fun c => absurd c (by decide))
              refine lv_goto (tgt := 12) hx hb dX4_run_120 (by decide) ?_
              refine lv_iload hx hb dX4_run_12 (lv_at hl 7 rfl) ?_
              refine lv_aload_n hx hb dX4_run_14 rfl (lv_at hl 3 rfl) ?_
              refine g_get (v := .ref (ad 139)) (T := TX4) C hP 136 4 (by decide) rfl rfl inwX4 (by decide) kf_X4_16 rfl dX4_run_15 ?_
              refine lv_iload_n hx hb dX4_run_18 rfl (lv_at hl 4 rfl) ?_
              refine g_iald (v := nI nn) C hP 139 10 (by decide) (fun _ _ => rfl) pp hx1 hn (by omega) (by decide) dX4_run_19 ?_
              refine lv_icmp_ge (tgt := 123) hx hb dX4_run_20 (by decide) (fun c20 => absurd ((nI_leeE rfl rfl (by omega) (by omega)).mp c20) n20) (fun c20 => ?_)
              have n20 : ¬ nn ≤ i := (not_congr (nI_leeE rfl rfl (by omega) (by omega))).mp c20
              refine lv_iload hx hb dX4_run_23 (lv_at hl 0 rfl) ?_
              refine lv_if_eq (tgt := 123) hx hb dX4_run_25 (by decide) (fun _ => ?_) (fun c => absurd c (by decide))
              refine lv_iconst (v := 0) hx hb dX4_run_123 (by decide) ?_
              refine lv_istore (lv' := [(8, .int 0), (7, .int 0), (9, .long ((L 137 ((I 141 ((4 * pp) + i)).toNatClampNeg)) + (x4 * (gpw x2 (gmS I pp) nn (L 153) i)))), (0, .ref (ad 136)), (1, .int x1), (2, .long x2), (4, .long x4), (6, .int (nI i))]) hx hb dX4_run_124 hl (by decide) rfl (fun ls hl => ?_)
              have loop126 : ∀ (N : Nat) (k : Nat) (hk : k ≤ i) (hfu : i < k + N) (H : Heap) (locs : List Loc) (ls : Array Slot), gP D cy ad I (gUM (va_up L 153 (gpw x2 (gmS I pp) nn (L 153))) (gmA I pp) (fun k => x4 * gpw x2 (gmS I pp) nn (L 153) k) i k) H → va_S A s.heap H locs → lv_has ls 11 [(0, .ref (ad 136)), (1, .int x1), (2, .long x2), (4, .long x4), (6, .int (nI i)), (7, .int 0), (8, .int (nI k))] → W p l e (gR 3 0 0) s m ([.ref (ad 136), .int x1, .long x2, .long x4] : List Value).toArray below meth c H locs 0 0 (MQ below (gQi D cy ad A (pq_X4_run pp nn x1 x2 x4 I L)) ([.ref (ad 136), .int x1, .long x2, .long x4] : List Value).toArray s 0 0 A) (F0 m 126 ls []) := by
                intro N
                induction N with
                | zero =>
                  intro k hk hfu
                  exact absurd hfu (by omega)
                | succ N ih126 =>
                  intro k hk hfu H locs ls hP hS hl
                  refine lv_iload hx hb dX4_run_126 (lv_at hl 6 rfl) ?_
                  refine lv_iload hx hb dX4_run_128 (lv_at hl 4 rfl) ?_
                  refine lv_icmp_ge (tgt := 182) hx hb dX4_run_130 (by decide) (fun c130 => ?_) (fun c130 => ?_)
                  · have n130 : i ≤ k := (nI_leeE rfl rfl (by omega) (by omega)).mp c130
                    refine lv_iload hx hb dX4_run_182 (lv_at hl 5 rfl) ?_
                    exact gM_zret C hr narrow_b0 hP hS (by decide) (by decide) dX4_run_184 (Or.inr ⟨fun z => z i (by omega) (Or.inr ⟨Int64.not_le.mp n80, n93⟩), rfl, rfl, by rw [show k = i by omega]; exact (gUM_i _ _ _ _).symm⟩)  -- end 3: n20 : ¬ nn ≤ i ; n67 : ¬ 1000000000000 < ((L 137 ((I 141 ((4 * pp) + i)).toNatClampNeg)) + (x4 * (gpw x2 (gmS I pp) nn (L 153) i))) ; n80 : ¬ (L 138 ((I 141 ((4 * pp) + i)).toNatClampNeg)) ≤ ((L 137 ((I 141 ((4 * pp) + i)).toNatClampNeg)) + (x4 * (gpw x2 (gmS I pp) nn (L 153) i))) ; n93 : ((L 137 ((I 141 ((4 * pp) + i)).toNatClampNeg)) + (x4 * (gpw x2 (gmS I pp) nn (L 153) i))) < (L 137 ((I 141 ((4 * pp) + i)).toNatClampNeg)) ; n20 : ¬ nn ≤ i ; n130 : i ≤ k
                  · have n130 : ¬ i ≤ k := (not_congr (nI_leeE rfl rfl (by omega) (by omega))).mp c130
                    refine lv_iload hx hb dX4_run_133 (lv_at hl 5 rfl) ?_
                    refine lv_if_ne (tgt := 182) hx hb dX4_run_135 (by decide) (fun c => absurd c (by decide)) (fun _ => ?_)
                    refine lv_aload_n hx hb dX4_run_138 rfl (lv_at hl 0 rfl) ?_
                    refine g_get (v := .ref (ad 141)) (T := TX4) C hP 136 6 (by decide) rfl rfl inwX4 (by decide) kf_X4_23 rfl dX4_run_139 ?_
                    refine lv_iconst (v := 4) hx hb dX4_run_142 (by decide) ?_
                    refine lv_iload_n hx hb dX4_run_143 rfl (lv_at hl 1 rfl) ?_
                    refine lv_imul hx hb dX4_run_144 ?_
                    refine lv_iload hx hb dX4_run_145 (lv_at hl 6 rfl) ?_
                    refine lv_iadd hx hb dX4_run_147 ?_
                    refine g_iald (v := I 141 ((4 * pp) + k)) C hP 141 40 (by decide) (fun _ _ => rfl) ((4 * pp) + k) (nI_addE (nI_mulE (show (4 : Int32) = nI 4 from rfl) hx1) rfl) rfl (by omega) (by decide) dX4_run_148 ?_
                    obtain ⟨e149, l149⟩ := vp_ix (ha k (by omega))
                    refine lv_istore (lv' := [(9, .int (I 141 ((4 * pp) + k))), (0, .ref (ad 136)), (1, .int x1), (2, .long x2), (4, .long x4), (6, .int (nI i)), (7, .int 0), (8, .int (nI k))]) hx hb dX4_run_149 hl (by decide) rfl (fun ls hl => ?_)
                    refine lv_aload_n hx hb dX4_run_151 rfl (lv_at hl 1 rfl) ?_
                    refine g_get (v := .ref (ad 137)) (T := TX4) C hP 136 1 (by decide) rfl rfl inwX4 (by decide) kf_X4_7 rfl dX4_run_152 ?_
                    refine lv_iload hx hb dX4_run_155 (lv_at hl 0 rfl) ?_
                    refine lv_aload_n hx hb dX4_run_157 rfl (lv_at hl 1 rfl) ?_
                    refine g_get (v := .ref (ad 137)) (T := TX4) C hP 136 1 (by decide) rfl rfl inwX4 (by decide) kf_X4_7 rfl dX4_run_158 ?_
                    refine lv_iload hx hb dX4_run_161 (lv_at hl 0 rfl) ?_
                    refine g_lald (v := (gUM (va_up L 153 (gpw x2 (gmS I pp) nn (L 153))) (gmA I pp) (fun k => x4 * gpw x2 (gmS I pp) nn (L 153) k) i k) 137 ((I 141 ((4 * pp) + k)).toNatClampNeg)) C hP 137 8 (by decide) (fun _ _ => rfl) ((I 141 ((4 * pp) + k)).toNatClampNeg) e149 rfl (by omega) (by decide) dX4_run_163 ?_
                    refine lv_lload hx hb dX4_run_164 (lv_at hl 4 rfl) ?_
                    refine lv_aload_n hx hb dX4_run_166 rfl (lv_at hl 1 rfl) ?_
                    refine g_get (v := .ref (ad 153)) (T := TX4) C hP 136 19 (by decide) rfl rfl inwX4 (by decide) kf_X4_60 rfl dX4_run_167 ?_
                    refine lv_iload hx hb dX4_run_170 (lv_at hl 7 rfl) ?_
                    refine g_lald (v := gpw x2 (gmS I pp) nn (L 153) k) C hP 153 4 (by decide) (fun _ _ => rfl) k rfl rfl (by omega) (by decide) dX4_run_172 ?_
                    refine lv_lmul hx hb dX4_run_173 ?_
                    refine lv_lsub hx hb dX4_run_174 ?_
                    refine g_last C hP hS 137 8 (by decide) (fun _ _ => rfl) ((I 141 ((4 * pp) + k)).toNatClampNeg) e149 (by omega) (by decide) dX4_run_175 (fun H locs hP hS => ?_)
                    refine lv_iinc (v := nI (k + 1)) (lv' := [(8, .int (nI (k + 1))), (9, .int (I 141 ((4 * pp) + k))), (0, .ref (ad 136)), (1, .int x1), (2, .long x2), (4, .long x4), (6, .int (nI i)), (7, .int 0)]) hx hb dX4_run_176 hl (k := 7) rfl (nI_1 _) (by decide) rfl (fun ls hl => ?_)
                    refine lv_goto (tgt := 126) hx hb dX4_run_179 (by decide) ?_
                    have e179 : (sL (gUM (va_up L 153 (gpw x2 (gmS I pp) nn (L 153))) (gmA I pp) (fun k => x4 * gpw x2 (gmS I pp) nn (L 153) k) i k) 137 ((I 141 ((4 * pp) + k)).toNatClampNeg) (((gUM (va_up L 153 (gpw x2 (gmS I pp) nn (L 153))) (gmA I pp) (fun k => x4 * gpw x2 (gmS I pp) nn (L 153) k) i k) 137 ((I 141 ((4 * pp) + k)).toNatClampNeg)) - (x4 * (gpw x2 (gmS I pp) nn (L 153) k)))) = (gUM (va_up L 153 (gpw x2 (gmS I pp) nn (L 153))) (gmA I pp) (fun k => x4 * gpw x2 (gmS I pp) nn (L 153) k) i (k + 1)) := gUM_s _ _ _ _ _ _ rfl
                    rw [e179] at hP
                    exact ih126 (k + 1) (by omega) (by omega) _ _ _ hP hS (lv_sub hl [2, 3, 4, 5, 6, 7, 0] rfl)
              exact loop126 (i + 1) 0 (Nat.zero_le _) (by omega) _ _ _ (by rw [gUM_0]; exact hP) hS (lv_sub hl [3, 4, 5, 6, 7, 1, 0] rfl)
            · have n93 : ¬ ((L 137 ((I 141 ((4 * pp) + i)).toNatClampNeg)) + (x4 * (gpw x2 (gmS I pp) nn (L 153) i))) < (L 137 ((I 141 ((4 * pp) + i)).toNatClampNeg)) := (not_congr (lg_cmp_lt _ _)).mp c93
              refine lv_iconst (v := 1) hx hb dX4_run_96 (by decide) ?_
              refine lv_goto (tgt := 101) hx hb dX4_run_97 (by decide) ?_
              refine lv_istore (lv' := [(7, .int 1), (9, .long ((L 137 ((I 141 ((4 * pp) + i)).toNatClampNeg)) + (x4 * (gpw x2 (gmS I pp) nn (L 153) i)))), (8, .int (I 141 ((4 * pp) + i))), (0, .ref (ad 136)), (1, .int x1), (2, .long x2), (4, .long x4), (6, .int (nI i))]) hx hb dX4_run_101 hl (by decide) rfl (fun ls hl => ?_)
              refine lv_iload hx hb dX4_run_103 (lv_at hl 0 rfl) ?_
              refine lv_if_eq (tgt := 120) hx hb dX4_run_105 (by decide) (fun c => absurd c (by decide)) (fun _ => ?_)
              refine lv_aload_n hx hb dX4_run_108 rfl (lv_at hl 3 rfl) ?_
              refine g_get (v := .ref (ad 137)) (T := TX4) C hP 136 1 (by decide) rfl rfl inwX4 (by decide) kf_X4_7 rfl dX4_run_109 ?_
              refine lv_iload hx hb dX4_run_112 (lv_at hl 2 rfl) ?_
              refine lv_lload hx hb dX4_run_114 (lv_at hl 1 rfl) ?_
              refine g_last C hP hS 137 8 (by decide) (fun _ _ => rfl) ((I 141 ((4 * pp) + i)).toNatClampNeg) e39 (by omega) (by decide) dX4_run_116 (fun H locs hP hS => ?_)
              refine lv_iinc (v := nI (i + 1)) (lv' := [(6, .int (nI (i + 1))), (7, .int 1), (9, .long ((L 137 ((I 141 ((4 * pp) + i)).toNatClampNeg)) + (x4 * (gpw x2 (gmS I pp) nn (L 153) i)))), (8, .int (I 141 ((4 * pp) + i))), (0, .ref (ad 136)), (1, .int x1), (2, .long x2), (4, .long x4)]) hx hb dX4_run_117 hl (k := 7) rfl (nI_1 _) (by decide) rfl (fun ls hl => ?_)
              refine lv_goto (tgt := 12) hx hb dX4_run_120 (by decide) ?_
              have e120 : (sL (gRM (va_up L 153 (gpw x2 (gmS I pp) nn (L 153))) (gmA I pp) (fun k => x4 * gpw x2 (gmS I pp) nn (L 153) k) i) 137 ((I 141 ((4 * pp) + i)).toNatClampNeg) ((L 137 ((I 141 ((4 * pp) + i)).toNatClampNeg)) + (x4 * (gpw x2 (gmS I pp) nn (L 153) i)))) = (gRM (va_up L 153 (gpw x2 (gmS I pp) nn (L 153))) (gmA I pp) (fun k => x4 * gpw x2 (gmS I pp) nn (L 153) k) (i + 1)) := gRM_s (L := (va_up L 153 (gpw x2 (gmS I pp) nn (L 153)))) (po := (fun k => x4 * gpw x2 (gmS I pp) nn (L 153) k)) hd (by omega)
              rw [e120] at hP
              exact ih12 (i + 1) (by omega) (lt_s hno (fun z => z.elim (fun z => n67 z) (fun z => Int64.not_lt.mpr (Int64.not_lt.mp n93) z.2))) (by omega) _ _ _ hP hS (lv_sub hl [4, 5, 6, 7, 0, 1] rfl)
  exact loop12 (nn + 1) 0 (Nat.zero_le _) (fun _ h => absurd h (Nat.not_lt_zero _)) (by omega) _ _ _ (by rw [gRM_0]; exact hP) hS (lv_sub hl [2, 3, 4, 5, 1, 0] rfl)
def pq_X4_logged (lc : Nat → Nat) (aa : Nat) (nn : Nat) (x1 : Int32) (x2 : Int32) (I : MI) (L : ML) : Int64 → MI → ML → Prop := fun r I' L' => glg I lc (L 145) aa nn = r ∧ I = I' ∧ gsc I lc L nn = L'
set_option maxRecDepth 100000 in
set_option maxHeartbeats 4000000 in
theorem ct_X4_logged (l : Launch) (D : va_G) (cy : Nat → ClassId) (ad : Nat → Nat) (hJ : gJ ad) (lc : Nat → Nat) (aa : Nat) (nn : Nat) (x1 : Int32) (x2 : Int32) (I : MI) (L : ML) (hx1 : x1 = nI aa) (ha8 : aa < 8) (hx2 : x2 = nI nn) (hn40 : nn ≤ 40) (hml : ∀ p, p < 10 → I 139 p = nI (lc p)) (hml4 : ∀ p, p < 10 → lc p ≤ 4) (hma : ∀ p, p < 10 → ∀ k, k < lc p → vp_in (I 141 (4 * p + k)) 8) (hmr : ∀ e, e < nn → vp_in (I 144 e) 10) : gMl l D cy ad yX4_logged cX4_logged 9 .long (gR 4 0 0) [.ref (ad 136), .int x1, .int x2] I L (pq_X4_logged lc aa nn x1 x2 I L) := by
  refine gMl_of hJ (by decide +kernel) kc_X4_logged (Nat.le_of_ble_eq_true rfl) (fun p e s m below meth c A ls C hr hP hS hl => ?_)
  have hx := C.hx
  have hb := C.hb
  have hl : lv_has ls 9 [(0, .ref (ad 136)), (1, .int x1), (2, .int x2)] := hl
  refine lv_lconst (v := 0) hx hb dX4_logged_0 (by decide) ?_
  refine lv_lstore_n (lv' := [(3, .long 0), (0, .ref (ad 136)), (1, .int x1), (2, .int x2)]) hx hb dX4_logged_1 rfl hl (by decide) rfl (fun ls hl => ?_)
  refine lv_iconst (v := 0) hx hb dX4_logged_2 (by decide) ?_
  refine lv_istore (lv' := [(5, .int 0), (3, .long 0), (0, .ref (ad 136)), (1, .int x1), (2, .int x2)]) hx hb dX4_logged_3 hl (by decide) rfl (fun ls hl => ?_)
  have loop5 : ∀ (N : Nat) (i : Nat) (hi : i ≤ nn) (hfu : nn < i + N) (H : Heap) (locs : List Loc) (ls : Array Slot), gP D cy ad I (gsc I lc L i) H → va_S A s.heap H locs → lv_has ls 9 [(0, .ref (ad 136)), (1, .int x1), (2, .int x2), (3, .long (glg I lc (L 145) aa i)), (5, .int (nI i))] → W p l e (gR 4 0 0) s m ([.ref (ad 136), .int x1, .int x2] : List Value).toArray below meth c H locs 0 0 (MQ below (gQl D cy ad A (pq_X4_logged lc aa nn x1 x2 I L)) ([.ref (ad 136), .int x1, .int x2] : List Value).toArray s 0 0 A) (F0 m 5 ls []) := by
    intro N
    induction N with
    | zero =>
      intro i hi hfu
      exact absurd hfu (by omega)
    | succ N ih5 =>
      intro i hi hfu H locs ls hP hS hl
      refine lv_iload hx hb dX4_logged_5 (lv_at hl 4 rfl) ?_
      refine lv_iload_n hx hb dX4_logged_7 rfl (lv_at hl 2 rfl) ?_
      refine lv_icmp_ge (tgt := 117) hx hb dX4_logged_8 (by decide) (fun c8 => ?_) (fun c8 => ?_)
      · have n8 : nn ≤ i := (nI_leeE hx2 rfl (by omega) (by omega)).mp c8
        refine lv_lload_n hx hb dX4_logged_117 rfl (lv_at hl 3 rfl) ?_
        exact gM_lret C hr hP hS (by decide) (by decide) dX4_logged_118 (⟨by rw [show nn = i by omega], rfl, by rw [show nn = i by omega]⟩)  -- end 0: n8 : nn ≤ i
      · have n8 : ¬ nn ≤ i := (not_congr (nI_leeE hx2 rfl (by omega) (by omega))).mp c8
        refine lv_aload_n hx hb dX4_logged_11 rfl (lv_at hl 0 rfl) ?_
        refine lv_aload_n hx hb dX4_logged_12 rfl (lv_at hl 0 rfl) ?_
        refine g_get (v := .ref (ad 144)) (T := TX4) C hP 136 10 (by decide) rfl rfl inwX4 (by decide) kf_X4_33 rfl dX4_logged_13 ?_
        refine lv_iload hx hb dX4_logged_16 (lv_at hl 4 rfl) ?_
        refine g_iald (v := I 144 i) C hP 144 40 (by decide) (fun _ _ => rfl) i rfl rfl (by omega) (by decide) dX4_logged_18 ?_
        obtain ⟨e19, l19⟩ := vp_ix (hmr i (by omega))
        have q19 := hml4 (I 144 i).toNatClampNeg (by omega)
        refine lv_aload_n hx hb dX4_logged_19 rfl (lv_at hl 0 rfl) ?_
        refine g_get (v := .ref (ad 145)) (T := TX4) C hP 136 11 (by decide) rfl rfl inwX4 (by decide) kf_X4_36 rfl dX4_logged_20 ?_
        refine lv_iload hx hb dX4_logged_23 (lv_at hl 4 rfl) ?_
        refine g_lald (v := L 145 i) C hP 145 40 (by decide) (fun _ _ => rfl) i rfl (congrFun (gsc_o I lc L (by decide) i) _) (by omega) (by decide) dX4_logged_25 ?_
        refine gM_callVv (As := [.int (I 144 i), .long (L 145 i)]) (rest := []) C hP hS hl.1 (ct_X4_findPosts l D cy ad hJ ((I 144 i).toNatClampNeg) (lc ((I 144 i).toNatClampNeg)) (I 144 i) (L 145 i) I (gsc I lc L i) e19 (by omega) (hml ((I 144 i).toNatClampNeg) (by omega)) (hml4 ((I 144 i).toNatClampNeg) (by omega))) fa_X4_findPosts kl_X4_100 ki_X4_findPosts kse_X4_findPosts (by decide) (T := TX4) rfl rfl rfl (by decide) (Nat.le_of_ble_eq_true rfl) (by decide) dX4_logged_26 rfl (fun I26 L26 H locs hq hP hS => ?_)
        obtain ⟨rfl, rfl⟩ := hq
        have hP : gP D cy ad I (gsc I lc L (i + 1)) H := hP
        refine lv_iconst (v := 0) hx hb dX4_logged_29 (by decide) ?_
        refine lv_istore (lv' := [(6, .int 0), (0, .ref (ad 136)), (1, .int x1), (2, .int x2), (3, .long (glg I lc (L 145) aa i)), (5, .int (nI i))]) hx hb dX4_logged_30 hl (by decide) rfl (fun ls hl => ?_)
        have loop32 : ∀ (N : Nat) (k : Nat) (hk : k ≤ lc (I 144 i).toNatClampNeg) (hfu : lc (I 144 i).toNatClampNeg < k + N) (H : Heap) (locs : List Loc) (ls : Array Slot), gP D cy ad I (gsc I lc L (i + 1)) H → va_S A s.heap H locs → lv_has ls 9 [(0, .ref (ad 136)), (1, .int x1), (2, .int x2), (3, .long (glg I lc (L 145) aa i + gdl (gmA I (I 144 i).toNatClampNeg) (gep I lc (L 145) i) aa k)), (5, .int (nI i)), (6, .int (nI k))] → W p l e (gR 4 0 0) s m ([.ref (ad 136), .int x1, .int x2] : List Value).toArray below meth c H locs 0 0 (MQ below (gQl D cy ad A (pq_X4_logged lc aa nn x1 x2 I L)) ([.ref (ad 136), .int x1, .int x2] : List Value).toArray s 0 0 A) (F0 m 32 ls []) := by
          intro N
          induction N with
          | zero =>
            intro k hk hfu
            exact absurd hfu (by omega)
          | succ N ih32 =>
            intro k hk hfu H locs ls hP hS hl
            refine lv_iload hx hb dX4_logged_32 (lv_at hl 5 rfl) ?_
            refine lv_aload_n hx hb dX4_logged_34 rfl (lv_at hl 0 rfl) ?_
            refine g_get (v := .ref (ad 139)) (T := TX4) C hP 136 4 (by decide) rfl rfl inwX4 (by decide) kf_X4_16 rfl dX4_logged_35 ?_
            refine lv_aload_n hx hb dX4_logged_38 rfl (lv_at hl 0 rfl) ?_
            refine g_get (v := .ref (ad 144)) (T := TX4) C hP 136 10 (by decide) rfl rfl inwX4 (by decide) kf_X4_33 rfl dX4_logged_39 ?_
            refine lv_iload hx hb dX4_logged_42 (lv_at hl 4 rfl) ?_
            refine g_iald (v := I 144 i) C hP 144 40 (by decide) (fun _ _ => rfl) i rfl rfl (by omega) (by decide) dX4_logged_44 ?_
            refine g_iald (v := nI (lc ((I 144 i).toNatClampNeg))) C hP 139 10 (by decide) (fun _ _ => rfl) ((I 144 i).toNatClampNeg) e19 (hml ((I 144 i).toNatClampNeg) (by omega)) (by omega) (by decide) dX4_logged_45 ?_
            refine lv_icmp_ge (tgt := 111) hx hb dX4_logged_46 (by decide) (fun c46 => ?_) (fun c46 => ?_)
            · have n46 : (lc ((I 144 i).toNatClampNeg)) ≤ k := (nI_leeE rfl rfl (by omega) (by omega)).mp c46
              refine lv_iinc (v := nI (i + 1)) (lv' := [(5, .int (nI (i + 1))), (0, .ref (ad 136)), (1, .int x1), (2, .int x2), (3, .long (glg I lc (L 145) aa i + gdl (gmA I (I 144 i).toNatClampNeg) (gep I lc (L 145) i) aa k)), (6, .int (nI k))]) hx hb dX4_logged_111 hl (k := 4) rfl (nI_1 _) (by decide) rfl (fun ls hl => ?_)
              refine lv_goto (tgt := 5) hx hb dX4_logged_114 (by decide) ?_
              have e114 : glg I lc (L 145) aa i + gdl (gmA I (I 144 i).toNatClampNeg) (gep I lc (L 145) i) aa k = glg I lc (L 145) aa (i + 1) := by rw [show k = lc (I 144 i).toNatClampNeg by omega]; rfl
              rw [e114] at hl
              exact ih5 (i + 1) (by omega) (by omega) _ _ _ hP hS (lv_sub hl [1, 2, 3, 4, 0] rfl)
            · have n46 : ¬ (lc ((I 144 i).toNatClampNeg)) ≤ k := (not_congr (nI_leeE rfl rfl (by omega) (by omega))).mp c46
              refine lv_aload_n hx hb dX4_logged_49 rfl (lv_at hl 0 rfl) ?_
              refine g_get (v := .ref (ad 141)) (T := TX4) C hP 136 6 (by decide) rfl rfl inwX4 (by decide) kf_X4_23 rfl dX4_logged_50 ?_
              refine lv_iconst (v := 4) hx hb dX4_logged_53 (by decide) ?_
              refine lv_aload_n hx hb dX4_logged_54 rfl (lv_at hl 0 rfl) ?_
              refine g_get (v := .ref (ad 144)) (T := TX4) C hP 136 10 (by decide) rfl rfl inwX4 (by decide) kf_X4_33 rfl dX4_logged_55 ?_
              refine lv_iload hx hb dX4_logged_58 (lv_at hl 4 rfl) ?_
              refine g_iald (v := I 144 i) C hP 144 40 (by decide) (fun _ _ => rfl) i rfl rfl (by omega) (by decide) dX4_logged_60 ?_
              refine lv_imul hx hb dX4_logged_61 ?_
              refine lv_iload hx hb dX4_logged_62 (lv_at hl 5 rfl) ?_
              refine lv_iadd hx hb dX4_logged_64 ?_
              refine g_iald (v := I 141 ((4 * ((I 144 i).toNatClampNeg)) + k)) C hP 141 40 (by decide) (fun _ _ => rfl) ((4 * ((I 144 i).toNatClampNeg)) + k) (nI_addE (nI_mulE (show (4 : Int32) = nI 4 from rfl) e19) rfl) rfl (by omega) (by decide) dX4_logged_65 ?_
              obtain ⟨e66, l66⟩ := vp_ix (hma _ (by omega) k (by omega))
              refine lv_iload_n hx hb dX4_logged_66 rfl (lv_at hl 1 rfl) ?_
              refine lv_icmp_ne (tgt := 80) hx hb dX4_logged_67 (by decide) (fun c67 => ?_) (fun c67 => ?_)
              · have n67 : ¬ ((I 141 ((4 * ((I 144 i).toNatClampNeg)) + k)).toNatClampNeg) = aa := (not_congr (nI_eqqE e66 hx1 (by omega) (by omega))).mp c67
                refine lv_lconst (v := 0) hx hb dX4_logged_80 (by decide) ?_
                refine lv_lstore (lv' := [(7, .long 0), (0, .ref (ad 136)), (1, .int x1), (2, .int x2), (3, .long (glg I lc (L 145) aa i + gdl (gmA I (I 144 i).toNatClampNeg) (gep I lc (L 145) i) aa k)), (5, .int (nI i)), (6, .int (nI k))]) hx hb dX4_logged_81 hl (by decide) rfl (fun ls hl => ?_)
                refine lv_aload_n hx hb dX4_logged_83 rfl (lv_at hl 1 rfl) ?_
                refine g_get (v := .ref (ad 148)) (T := TX4) C hP 136 14 (by decide) rfl rfl inwX4 (by decide) kf_X4_45 rfl dX4_logged_84 ?_
                refine lv_iload hx hb dX4_logged_87 (lv_at hl 5 rfl) ?_
                refine g_iald (v := I 148 i) C hP 148 40 (by decide) (fun _ _ => rfl) i rfl rfl (by omega) (by decide) dX4_logged_89 ?_
                refine lv_if_lt (tgt := 100) hx hb dX4_logged_90 (by decide) (fun c90 => ?_) (fun c90 => ?_)
                · refine lv_lload_n hx hb dX4_logged_100 rfl (lv_at hl 4 rfl) ?_
                  refine lv_lload hx hb dX4_logged_101 (lv_at hl 0 rfl) ?_
                  refine lv_ladd hx hb dX4_logged_103 ?_
                  refine lv_lstore_n (lv' := [(3, .long ((glg I lc (L 145) aa i + gdl (gmA I (I 144 i).toNatClampNeg) (gep I lc (L 145) i) aa k) + 0)), (7, .long 0), (0, .ref (ad 136)), (1, .int x1), (2, .int x2), (5, .int (nI i)), (6, .int (nI k))]) hx hb dX4_logged_104 rfl hl (by decide) rfl (fun ls hl => ?_)
                  refine lv_iinc (v := nI (k + 1)) (lv' := [(6, .int (nI (k + 1))), (3, .long ((glg I lc (L 145) aa i + gdl (gmA I (I 144 i).toNatClampNeg) (gep I lc (L 145) i) aa k) + 0)), (7, .long 0), (0, .ref (ad 136)), (1, .int x1), (2, .int x2), (5, .int (nI i))]) hx hb dX4_logged_105 hl (k := 6) rfl (nI_1 _) (by decide) rfl (fun ls hl => ?_)
                  refine lv_goto (tgt := 32) hx hb dX4_logged_108 (by decide) ?_
                  have e108 : (glg I lc (L 145) aa i + gdl (gmA I (I 144 i).toNatClampNeg) (gep I lc (L 145) i) aa k) + 0 = glg I lc (L 145) aa i + gdl (gmA I (I 144 i).toNatClampNeg) (gep I lc (L 145) i) aa (k + 1) := gd_np n67
                  rw [e108] at hl
                  exact ih32 (k + 1) (by omega) (by omega) _ _ _ hP hS (lv_sub hl [3, 4, 5, 1, 6, 0] rfl)
                · refine lv_lload_n hx hb dX4_logged_93 rfl (lv_at hl 4 rfl) ?_
                  refine lv_lload hx hb dX4_logged_94 (lv_at hl 0 rfl) ?_
                  refine lv_lsub hx hb dX4_logged_96 ?_
                  refine lv_goto (tgt := 104) hx hb dX4_logged_97 (by decide) ?_
                  refine lv_lstore_n (lv' := [(3, .long ((glg I lc (L 145) aa i + gdl (gmA I (I 144 i).toNatClampNeg) (gep I lc (L 145) i) aa k) - 0)), (7, .long 0), (0, .ref (ad 136)), (1, .int x1), (2, .int x2), (5, .int (nI i)), (6, .int (nI k))]) hx hb dX4_logged_104 rfl hl (by decide) rfl (fun ls hl => ?_)
                  refine lv_iinc (v := nI (k + 1)) (lv' := [(6, .int (nI (k + 1))), (3, .long ((glg I lc (L 145) aa i + gdl (gmA I (I 144 i).toNatClampNeg) (gep I lc (L 145) i) aa k) - 0)), (7, .long 0), (0, .ref (ad 136)), (1, .int x1), (2, .int x2), (5, .int (nI i))]) hx hb dX4_logged_105 hl (k := 6) rfl (nI_1 _) (by decide) rfl (fun ls hl => ?_)
                  refine lv_goto (tgt := 32) hx hb dX4_logged_108 (by decide) ?_
                  have e108 : (glg I lc (L 145) aa i + gdl (gmA I (I 144 i).toNatClampNeg) (gep I lc (L 145) i) aa k) - 0 = glg I lc (L 145) aa i + gdl (gmA I (I 144 i).toNatClampNeg) (gep I lc (L 145) i) aa (k + 1) := gd_nm n67
                  rw [e108] at hl
                  exact ih32 (k + 1) (by omega) (by omega) _ _ _ hP hS (lv_sub hl [3, 4, 5, 1, 6, 0] rfl)
              · have n67 : ((I 141 ((4 * ((I 144 i).toNatClampNeg)) + k)).toNatClampNeg) = aa := (nI_eqqE e66 hx1 (by omega) (by omega)).mp c67
                refine lv_aload_n hx hb dX4_logged_70 rfl (lv_at hl 0 rfl) ?_
                refine g_get (v := .ref (ad 153)) (T := TX4) C hP 136 19 (by decide) rfl rfl inwX4 (by decide) kf_X4_60 rfl dX4_logged_71 ?_
                refine lv_iload hx hb dX4_logged_74 (lv_at hl 5 rfl) ?_
                refine g_lald (v := gpo (L 145 i) (gmS I (I 144 i).toNatClampNeg) (lc (I 144 i).toNatClampNeg) k) C hP 153 4 (by decide) (fun _ _ => rfl) k rfl (gsc_153 (by omega)) (by omega) (by decide) dX4_logged_76 ?_
                refine lv_goto (tgt := 81) hx hb dX4_logged_77 (by decide) ?_
                refine lv_lstore (lv' := [(7, .long (gpo (L 145 i) (gmS I (I 144 i).toNatClampNeg) (lc (I 144 i).toNatClampNeg) k)), (0, .ref (ad 136)), (1, .int x1), (2, .int x2), (3, .long (glg I lc (L 145) aa i + gdl (gmA I (I 144 i).toNatClampNeg) (gep I lc (L 145) i) aa k)), (5, .int (nI i)), (6, .int (nI k))]) hx hb dX4_logged_81 hl (by decide) rfl (fun ls hl => ?_)
                refine lv_aload_n hx hb dX4_logged_83 rfl (lv_at hl 1 rfl) ?_
                refine g_get (v := .ref (ad 148)) (T := TX4) C hP 136 14 (by decide) rfl rfl inwX4 (by decide) kf_X4_45 rfl dX4_logged_84 ?_
                refine lv_iload hx hb dX4_logged_87 (lv_at hl 5 rfl) ?_
                refine g_iald (v := I 148 i) C hP 148 40 (by decide) (fun _ _ => rfl) i rfl rfl (by omega) (by decide) dX4_logged_89 ?_
                refine lv_if_lt (tgt := 100) hx hb dX4_logged_90 (by decide) (fun c90 => ?_) (fun c90 => ?_)
                · refine lv_lload_n hx hb dX4_logged_100 rfl (lv_at hl 4 rfl) ?_
                  refine lv_lload hx hb dX4_logged_101 (lv_at hl 0 rfl) ?_
                  refine lv_ladd hx hb dX4_logged_103 ?_
                  refine lv_lstore_n (lv' := [(3, .long ((glg I lc (L 145) aa i + gdl (gmA I (I 144 i).toNatClampNeg) (gep I lc (L 145) i) aa k) + (gpo (L 145 i) (gmS I (I 144 i).toNatClampNeg) (lc (I 144 i).toNatClampNeg) k))), (7, .long (gpo (L 145 i) (gmS I (I 144 i).toNatClampNeg) (lc (I 144 i).toNatClampNeg) k)), (0, .ref (ad 136)), (1, .int x1), (2, .int x2), (5, .int (nI i)), (6, .int (nI k))]) hx hb dX4_logged_104 rfl hl (by decide) rfl (fun ls hl => ?_)
                  refine lv_iinc (v := nI (k + 1)) (lv' := [(6, .int (nI (k + 1))), (3, .long ((glg I lc (L 145) aa i + gdl (gmA I (I 144 i).toNatClampNeg) (gep I lc (L 145) i) aa k) + (gpo (L 145 i) (gmS I (I 144 i).toNatClampNeg) (lc (I 144 i).toNatClampNeg) k))), (7, .long (gpo (L 145 i) (gmS I (I 144 i).toNatClampNeg) (lc (I 144 i).toNatClampNeg) k)), (0, .ref (ad 136)), (1, .int x1), (2, .int x2), (5, .int (nI i))]) hx hb dX4_logged_105 hl (k := 6) rfl (nI_1 _) (by decide) rfl (fun ls hl => ?_)
                  refine lv_goto (tgt := 32) hx hb dX4_logged_108 (by decide) ?_
                  have e108 : (glg I lc (L 145) aa i + gdl (gmA I (I 144 i).toNatClampNeg) (gep I lc (L 145) i) aa k) + (gpo (L 145 i) (gmS I (I 144 i).toNatClampNeg) (lc (I 144 i).toNatClampNeg) k) = glg I lc (L 145) aa i + gdl (gmA I (I 144 i).toNatClampNeg) (gep I lc (L 145) i) aa (k + 1) := gd_yp n67 (if_pos c90).symm
                  rw [e108] at hl
                  exact ih32 (k + 1) (by omega) (by omega) _ _ _ hP hS (lv_sub hl [3, 4, 5, 1, 6, 0] rfl)
                · refine lv_lload_n hx hb dX4_logged_93 rfl (lv_at hl 4 rfl) ?_
                  refine lv_lload hx hb dX4_logged_94 (lv_at hl 0 rfl) ?_
                  refine lv_lsub hx hb dX4_logged_96 ?_
                  refine lv_goto (tgt := 104) hx hb dX4_logged_97 (by decide) ?_
                  refine lv_lstore_n (lv' := [(3, .long ((glg I lc (L 145) aa i + gdl (gmA I (I 144 i).toNatClampNeg) (gep I lc (L 145) i) aa k) - (gpo (L 145 i) (gmS I (I 144 i).toNatClampNeg) (lc (I 144 i).toNatClampNeg) k))), (7, .long (gpo (L 145 i) (gmS I (I 144 i).toNatClampNeg) (lc (I 144 i).toNatClampNeg) k)), (0, .ref (ad 136)), (1, .int x1), (2, .int x2), (5, .int (nI i)), (6, .int (nI k))]) hx hb dX4_logged_104 rfl hl (by decide) rfl (fun ls hl => ?_)
                  refine lv_iinc (v := nI (k + 1)) (lv' := [(6, .int (nI (k + 1))), (3, .long ((glg I lc (L 145) aa i + gdl (gmA I (I 144 i).toNatClampNeg) (gep I lc (L 145) i) aa k) - (gpo (L 145 i) (gmS I (I 144 i).toNatClampNeg) (lc (I 144 i).toNatClampNeg) k))), (7, .long (gpo (L 145 i) (gmS I (I 144 i).toNatClampNeg) (lc (I 144 i).toNatClampNeg) k)), (0, .ref (ad 136)), (1, .int x1), (2, .int x2), (5, .int (nI i))]) hx hb dX4_logged_105 hl (k := 6) rfl (nI_1 _) (by decide) rfl (fun ls hl => ?_)
                  refine lv_goto (tgt := 32) hx hb dX4_logged_108 (by decide) ?_
                  have e108 : (glg I lc (L 145) aa i + gdl (gmA I (I 144 i).toNatClampNeg) (gep I lc (L 145) i) aa k) - (gpo (L 145 i) (gmS I (I 144 i).toNatClampNeg) (lc (I 144 i).toNatClampNeg) k) = glg I lc (L 145) aa i + gdl (gmA I (I 144 i).toNatClampNeg) (gep I lc (L 145) i) aa (k + 1) := gd_ym n67 (if_neg c90).symm
                  rw [e108] at hl
                  exact ih32 (k + 1) (by omega) (by omega) _ _ _ hP hS (lv_sub hl [3, 4, 5, 1, 6, 0] rfl)
        rw [show glg I lc (L 145) aa i = glg I lc (L 145) aa i + gdl (gmA I (I 144 i).toNatClampNeg) (gep I lc (L 145) i) aa 0 from gd_0] at hl
        exact loop32 (lc (I 144 i).toNatClampNeg + 1) 0 (Nat.zero_le _) (by omega) _ _ _ hP hS (lv_sub hl [1, 2, 3, 4, 5, 0] rfl)
  exact loop5 (nn + 1) 0 (Nat.zero_le _) (by omega) _ _ _ hP hS (lv_sub hl [2, 3, 4, 1, 0] rfl)
def pq_X4_isSound (lc : Nat → Nat) (ne : Nat) (I : MI) (L : ML) : Int32 → MI → ML → Prop := fun r I' L' => gz (L 137) (glf I lc (L 145) ne) 8 = r ∧ I = I' ∧ (gSS I lc L ne 8) = L'
set_option maxRecDepth 100000 in
set_option maxHeartbeats 4000000 in
theorem ct_X4_isSound (l : Launch) (D : va_G) (cy : Nat → ClassId) (ad : Nat → Nat) (hJ : gJ ad) (lc : Nat → Nat) (ne : Nat) (I : MI) (L : ML) (hme : I 136 9 = nI ne) (hme40 : ne ≤ 40) (hml : ∀ p, p < 10 → I 139 p = nI (lc p)) (hml4 : ∀ p, p < 10 → lc p ≤ 4) (hma : ∀ p, p < 10 → ∀ k, k < lc p → vp_in (I 141 (4 * p + k)) 8) (hmr : ∀ e, e < ne → vp_in (I 144 e) 10) : gMi l D cy ad yX4_isSound cX4_isSound 3 .boolean (gR 3 0 0) [.ref (ad 136)] I L (pq_X4_isSound lc ne I L) := by
  refine gMi_of hJ (by decide +kernel) kc_X4_isSound (Nat.le_of_ble_eq_true rfl) (fun p e s m below meth c A ls C hr hP hS hl => ?_)
  have hx := C.hx
  have hb := C.hb
  have hl : lv_has ls 3 [(0, .ref (ad 136))] := hl
  refine lv_iconst (v := 1) hx hb dX4_isSound_0 (by decide) ?_
  refine lv_istore_n (lv' := [(1, .int 1), (0, .ref (ad 136))]) hx hb dX4_isSound_1 rfl hl (by decide) rfl (fun ls hl => ?_)
  refine lv_iconst (v := 0) hx hb dX4_isSound_2 (by decide) ?_
  refine lv_istore_n (lv' := [(2, .int 0), (1, .int 1), (0, .ref (ad 136))]) hx hb dX4_isSound_3 rfl hl (by decide) rfl (fun ls hl => ?_)
  have loop4 : ∀ (N : Nat) (i : Nat) (hi : i ≤ 8) (hfu : 8 < i + N) (H : Heap) (locs : List Loc) (ls : Array Slot), gP D cy ad I (gSS I lc L ne i) H → va_S A s.heap H locs → lv_has ls 3 [(0, .ref (ad 136)), (1, .int (gz (L 137) (glf I lc (L 145) ne) i)), (2, .int (nI i))] → W p l e (gR 3 0 0) s m ([.ref (ad 136)] : List Value).toArray below meth c H locs 0 0 (MQ below (gQi D cy ad A (pq_X4_isSound lc ne I L)) ([.ref (ad 136)] : List Value).toArray s 0 0 A) (F0 m 4 ls []) := by
    intro N
    induction N with
    | zero =>
      intro i hi hfu
      exact absurd hfu (by omega)
    | succ N ih4 =>
      intro i hi hfu H locs ls hP hS hl
      refine lv_iload_n hx hb dX4_isSound_4 rfl (lv_at hl 2 rfl) ?_
      refine lv_bipush (v := 8) hx hb dX4_isSound_5 (by decide) ?_
      refine lv_icmp_ge (tgt := 45) hx hb dX4_isSound_7 (by decide) (fun c7 => ?_) (fun c7 => ?_)
      · have n7 : 8 ≤ i := (nI_leeE (show (8 : Int32) = nI 8 from rfl) rfl (by omega) (by omega)).mp c7
        refine lv_iload_n hx hb dX4_isSound_45 rfl (lv_at hl 1 rfl) ?_
        exact gM_zret C hr gz_b hP hS (by decide) (by decide) dX4_isSound_46 (⟨by rw [show i = 8 by omega], rfl, by rw [show i = 8 by omega]⟩)  -- end 0: n7 : 8 ≤ i
      · have n7 : ¬ 8 ≤ i := (not_congr (nI_leeE (show (8 : Int32) = nI 8 from rfl) rfl (by omega) (by omega))).mp c7
        refine lv_iload_n hx hb dX4_isSound_10 rfl (lv_at hl 1 rfl) ?_
        refine lv_if_eq (tgt := 37) hx hb dX4_isSound_11 (by decide) (fun c11 => ?_) (fun c11 => ?_)
        · refine lv_iconst (v := 0) hx hb dX4_isSound_37 (by decide) ?_
          refine lv_istore_n (lv' := [(1, .int 0), (0, .ref (ad 136)), (2, .int (nI i))]) hx hb dX4_isSound_38 rfl hl (by decide) rfl (fun ls hl => ?_)
          refine lv_iinc (v := nI (i + 1)) (lv' := [(2, .int (nI (i + 1))), (1, .int 0), (0, .ref (ad 136))]) hx hb dX4_isSound_39 hl (k := 2) rfl (nI_1 _) (by decide) rfl (fun ls hl => ?_)
          refine lv_goto (tgt := 4) hx hb dX4_isSound_42 (by decide) ?_
          have e42 : (0 : Int32) = gz (L 137) (glf I lc (L 145) ne) (i + 1) := gz_nn c11
          have e43 : (gSS I lc L ne i) = (gSS I lc L ne (i + 1)) := gSS_n c11
          rw [e42] at hl
          rw [e43] at hP
          exact ih4 (i + 1) (by omega) (by omega) _ _ _ hP hS (lv_sub hl [2, 1, 0] rfl)
        · refine lv_aload_n hx hb dX4_isSound_14 rfl (lv_at hl 0 rfl) ?_
          refine g_get (v := .ref (ad 137)) (T := TX4) C hP 136 1 (by decide) rfl rfl inwX4 (by decide) kf_X4_7 rfl dX4_isSound_15 ?_
          refine lv_iload_n hx hb dX4_isSound_18 rfl (lv_at hl 2 rfl) ?_
          refine g_lald (v := L 137 i) C hP 137 8 (by decide) (fun _ _ => rfl) i rfl (congrFun (gSS_o I lc L ne (by decide) i) _) (by omega) (by decide) dX4_isSound_19 ?_
          refine lv_aload_n hx hb dX4_isSound_20 rfl (lv_at hl 0 rfl) ?_
          refine lv_iload_n hx hb dX4_isSound_21 rfl (lv_at hl 2 rfl) ?_
          refine lv_aload_n hx hb dX4_isSound_22 rfl (lv_at hl 0 rfl) ?_
          refine g_get (v := .int (nI ne)) (T := TX4) C hP 136 9 (by decide) rfl rfl inwX4 (by decide) kf_X4_104 (congrArg (fun z => some (Value.int z)) hme) dX4_isSound_23 ?_
          refine gM_callVl (As := [.int (nI i), .int (nI ne)]) (rest := [.long (L 137 i)]) C hP hS hl.1 (ct_X4_logged l D cy ad hJ lc i ne (nI i) (nI ne) I (gSS I lc L ne i) rfl (by omega) rfl (by omega) hml hml4 hma hmr) fa_X4_logged kl_X4_107 ki_X4_logged kse_X4_logged (by decide) (T := TX4) rfl rfl rfl (by decide) (Nat.le_of_ble_eq_true rfl) (by decide) dX4_isSound_26 rfl (fun r26 I26 L26 H locs hq hP hS => ?_)
          obtain ⟨hr26, rfl, rfl⟩ := hq
          rw [gSS_o I lc L ne (by decide) i] at hr26
          subst hr26
          refine W.lcmp hx hb dX4_isSound_29 ?_
          refine lv_if_ne (tgt := 37) hx hb dX4_isSound_30 (by decide) (fun c30 => ?_) (fun c30 => ?_)
          · have n30 : ¬ (L 137 i) = (glg I lc (L 145) i ne) := (not_congr (lg_cmp_eq _ _)).mp c30
            refine lv_iconst (v := 0) hx hb dX4_isSound_37 (by decide) ?_
            refine lv_istore_n (lv' := [(1, .int 0), (0, .ref (ad 136)), (2, .int (nI i))]) hx hb dX4_isSound_38 rfl hl (by decide) rfl (fun ls hl => ?_)
            refine lv_iinc (v := nI (i + 1)) (lv' := [(2, .int (nI (i + 1))), (1, .int 0), (0, .ref (ad 136))]) hx hb dX4_isSound_39 hl (k := 2) rfl (nI_1 _) (by decide) rfl (fun ls hl => ?_)
            refine lv_goto (tgt := 4) hx hb dX4_isSound_42 (by decide) ?_
            have e42 : (0 : Int32) = gz (L 137) (glf I lc (L 145) ne) (i + 1) := gz_ny c11 n30
            have e43 : (gsc I lc (gSS I lc L ne i) ne) = (gSS I lc L ne (i + 1)) := gSS_y c11
            rw [e42] at hl
            rw [e43] at hP
            exact ih4 (i + 1) (by omega) (by omega) _ _ _ hP hS (lv_sub hl [2, 1, 0] rfl)
          · have n30 : (L 137 i) = (glg I lc (L 145) i ne) := (lg_cmp_eq _ _).mp c30
            refine lv_iconst (v := 1) hx hb dX4_isSound_33 (by decide) ?_
            refine lv_goto (tgt := 38) hx hb dX4_isSound_34 (by decide) ?_
            refine lv_istore_n (lv' := [(1, .int 1), (0, .ref (ad 136)), (2, .int (nI i))]) hx hb dX4_isSound_38 rfl hl (by decide) rfl (fun ls hl => ?_)
            refine lv_iinc (v := nI (i + 1)) (lv' := [(2, .int (nI (i + 1))), (1, .int 1), (0, .ref (ad 136))]) hx hb dX4_isSound_39 hl (k := 2) rfl (nI_1 _) (by decide) rfl (fun ls hl => ?_)
            refine lv_goto (tgt := 4) hx hb dX4_isSound_42 (by decide) ?_
            have e42 : (1 : Int32) = gz (L 137) (glf I lc (L 145) ne) (i + 1) := gz_yy c11 n30
            have e43 : (gsc I lc (gSS I lc L ne i) ne) = (gSS I lc L ne (i + 1)) := gSS_y c11
            rw [e42] at hl
            rw [e43] at hP
            exact ih4 (i + 1) (by omega) (by omega) _ _ _ hP hS (lv_sub hl [2, 1, 0] rfl)
  exact loop4 9 0 (Nat.zero_le _) (by omega) _ _ _ hP hS (lv_sub hl [2, 1, 0] rfl)
