theorem cE_X3_draw (np : Nat) (lc : Nat → Nat) (x1 : Int32) (x2 : Int32) {I I' : MI} {L L' : ML} {E : String} (h : px_X3_draw np lc x1 x2 I L E I' L') : E = xIO ∨ E = xIA ∨ E = xIS := by
  unfold px_X3_draw at h
  rcases h with ⟨-, h, -, -⟩ | ⟨-, -, h, -, -⟩ | ⟨-, -, -, h, -, -⟩
  · exact Or.inl h.symm
  · exact Or.inr (Or.inl h.symm)
  · exact Or.inr (Or.inr (h.symm))
def pq_L_draw (np : Nat) (lc : Nat → Nat) (x1 : Int32) (x2 : Int32) (I : MI) (L : ML) : Int32 → MI → ML → Prop := fun r I' L' => (∃ (v : Int32) (L1 : ML), pq_X3_draw np lc x1 x2 I L v I' L1 ∧ sL L1 135 0 v.toInt64 = L' ∧ 0 = r) ∨ (px_X3_draw np lc x1 x2 I L xIO I' L' ∧ 1 = r) ∨ (px_X3_draw np lc x1 x2 I L xIA I' L' ∧ 2 = r) ∨ (px_X3_draw np lc x1 x2 I L xIS I' L' ∧ 3 = r)
theorem fw_L_draw : gFW yL_draw cL_draw 5 [(0, 10, 13, 13), (0, 10, 17, 15), (0, 10, 21, 17)] 4 := ⟨kc_L_draw, kini_L, ⟨by decide +kernel, by decide +kernel⟩, by decide +kernel⟩
set_option maxRecDepth 100000 in
set_option maxHeartbeats 4000000 in
theorem ct_L_draw (l : Launch) (D : va_G) (cy : Nat → ClassId) (ad : Nat → Nat) (hJ : gJ ad) (hlf : l.stackTraces = false) (np : Nat) (lc : Nat → Nat) (x1 : Int32) (x2 : Int32) (I : MI) (L : ML) (hnp : I 0 3 = nI np) (hnp10 : np ≤ 10) (hlc : ∀ pp, pp < 10 → I (95 + 4 * pp) 2 = nI (lc pp)) (hlc4 : ∀ pp, pp < 10 → lc pp ≤ 4) (hlc0 : ∀ p, np ≤ p → p < 10 → lc p = 0) : gW l D cy ad yL_draw cL_draw 5 [(0, 10, 13, 13), (0, 10, 17, 15), (0, 10, 21, 17)] (gR 0 3 18) [.ref (ad 0), .int x1, .int x2, .ref (ad 135)] I L (pq_L_draw np lc x1 x2 I L) := by
  refine gW_of hJ (by decide +kernel) kc_L_draw (Nat.le_of_ble_eq_true rfl) (fun p e s m below meth c A ls C hr htb hP hS hl => ?_)
  have hx := C.hx
  have hb := C.hb
  have hl : lv_has ls 5 [(0, .ref (ad 0)), (1, .int x1), (2, .int x2), (3, .ref (ad 135))] := hl
  refine lv_aload_n hx hb dL_draw_0 rfl (lv_at hl 3 rfl) ?_
  refine lv_iconst (v := 0) hx hb dL_draw_1 (by decide) ?_
  refine lv_aload_n hx hb dL_draw_2 rfl (lv_at hl 0 rfl) ?_
  refine lv_iload_n hx hb dL_draw_3 rfl (lv_at hl 1 rfl) ?_
  refine lv_iload_n hx hb dL_draw_4 rfl (lv_at hl 2 rfl) ?_
  refine gC_callVi (As := [.int x1, .int x2]) (rest := [.int 0, .ref (ad 135)]) C hP hS hl.1 (ct_X3_draw l D cy ad hJ hlf np lc x1 x2 I L hnp hnp10 hlc hlc4 hlc0) fa_X3_draw kl_L_7 ki_X3_draw kse_X3_draw (by decide) (T := TX3) rfl rfl rfl (by decide) (Nat.le_of_ble_eq_true rfl) (by decide) ?_ dL_draw_5 rfl (fun v I1 L1 H locs hq hP hS => ?_)
  · intro E ce q9 I1 L1 H1 locs1 hpx hP1 hS1 hce hcv hcE
    rcases cE_X3_draw np lc x1 x2 hpx with rfl | rfl | rfl
    · refine g_catch C (pre := []) (z := (0, 10, 13, 13)) (suf := [(0, 10, 17, 15), (0, 10, 21, 17)]) htb (List.mem_of_getElem? (i := 0) rfl) (fun w h => absurd h List.not_mem_nil) (by decide) (by decide) kcl_L_13 (List.mem_of_getElem? (i := 3) rfl) hce hcv hcE ?_
      refine lv_astore (lv' := [(4, .ref q9), (0, .ref (ad 0)), (1, .int x1), (2, .int x2), (3, .ref (ad 135))]) hx hb dL_draw_13 hl (by decide) rfl (fun ls hl => ?_)
      refine lv_iconst (v := 1) hx hb dL_draw_15 (by decide) ?_
      exact gM_iret C hr hP1 hS1 (by decide) (by decide) dL_draw_16 (Or.inr (Or.inl (⟨hpx, rfl⟩)))
    · refine g_catch C (pre := [(0, 10, 13, 13)]) (z := (0, 10, 17, 15)) (suf := [(0, 10, 21, 17)]) htb (List.mem_of_getElem? (i := 1) rfl) (List.forall_mem_cons.mpr ⟨⟨by decide, xIO, List.mem_of_getElem? (i := 0) rfl, kcl_L_13, by decide⟩, (fun w h => absurd h List.not_mem_nil)⟩) (by decide) (by decide) kcl_L_15 (List.mem_of_getElem? (i := 4) rfl) hce hcv hcE ?_
      refine lv_astore (lv' := [(4, .ref q9), (0, .ref (ad 0)), (1, .int x1), (2, .int x2), (3, .ref (ad 135))]) hx hb dL_draw_17 hl (by decide) rfl (fun ls hl => ?_)
      refine lv_iconst (v := 2) hx hb dL_draw_19 (by decide) ?_
      exact gM_iret C hr hP1 hS1 (by decide) (by decide) dL_draw_20 (Or.inr (Or.inr (Or.inl (⟨hpx, rfl⟩))))
    · refine g_catch C (pre := [(0, 10, 13, 13), (0, 10, 17, 15)]) (z := (0, 10, 21, 17)) (suf := []) htb (List.mem_of_getElem? (i := 2) rfl) (List.forall_mem_cons.mpr ⟨⟨by decide, xIO, List.mem_of_getElem? (i := 0) rfl, kcl_L_13, by decide⟩, (List.forall_mem_cons.mpr ⟨⟨by decide, xIA, List.mem_of_getElem? (i := 1) rfl, kcl_L_15, by decide⟩, (fun w h => absurd h List.not_mem_nil)⟩)⟩) (by decide) (by decide) kcl_L_17 (List.mem_of_getElem? (i := 5) rfl) hce hcv hcE ?_
      refine lv_astore (lv' := [(4, .ref q9), (0, .ref (ad 0)), (1, .int x1), (2, .int x2), (3, .ref (ad 135))]) hx hb dL_draw_21 hl (by decide) rfl (fun ls hl => ?_)
      refine lv_iconst (v := 3) hx hb dL_draw_23 (by decide) ?_
      exact gM_iret C hr hP1 hS1 (by decide) (by decide) dL_draw_24 (Or.inr (Or.inr (Or.inr (⟨hpx, rfl⟩))))
  · refine lv_i2l (v := v.toInt64) hx hb dL_draw_8 rfl ?_
    refine g_last C hP hS 135 1 (by decide) (fun _ _ => rfl) (x := v.toInt64) 0 (show (0 : Int32) = nI 0 from rfl) (by omega) (by decide) dL_draw_9 (fun H locs hP hS => ?_)
    refine lv_goto (tgt := 25) hx hb dL_draw_10 (by decide) ?_
    refine lv_iconst (v := 0) hx hb dL_draw_25 (by decide) ?_
    exact gM_iret C hr hP hS (by decide) (by decide) dL_draw_26 (Or.inl (⟨v, L1, hq, rfl, rfl⟩))
theorem cE_X3_add (np : Nat) (lc : Nat → Nat) (x1 : Int32) (x2 : Int32) (x3 : Int32) {I I' : MI} {L L' : ML} {E : String} (h : px_X3_add np lc x1 x2 x3 I L E I' L') : E = xIO ∨ E = xIA ∨ E = xIS := by
  unfold px_X3_add at h
  rcases h with ⟨-, h, -, -⟩ | ⟨-, -, h, -, -⟩ | ⟨-, -, -, h, -, -⟩ | ⟨-, -, -, -, h, -, -⟩ | ⟨-, -, -, -, -, -, h, -, -⟩ | ⟨-, -, -, -, -, h, -, -⟩
  · exact Or.inl h.symm
  · exact Or.inl h.symm
  · exact Or.inr (Or.inl h.symm)
  · exact Or.inr (Or.inl h.symm)
  · exact Or.inr (Or.inr (h.symm))
  · exact Or.inr (Or.inr (h.symm))
def pq_L_add (np : Nat) (lc : Nat → Nat) (x1 : Int32) (x2 : Int32) (x3 : Int32) (I : MI) (L : ML) : Int32 → MI → ML → Prop := fun r I' L' => (∃ (v : Int32) (L1 : ML), pq_X3_add np lc x1 x2 x3 I L v I' L1 ∧ sL L1 135 0 v.toInt64 = L' ∧ 0 = r) ∨ (px_X3_add np lc x1 x2 x3 I L xIO I' L' ∧ 1 = r) ∨ (px_X3_add np lc x1 x2 x3 I L xIA I' L' ∧ 2 = r) ∨ (px_X3_add np lc x1 x2 x3 I L xIS I' L' ∧ 3 = r)
theorem fw_L_add : gFW yL_add cL_add 6 [(0, 12, 15, 13), (0, 12, 19, 15), (0, 12, 23, 17)] 5 := ⟨kc_L_add, kini_L, ⟨by decide +kernel, by decide +kernel⟩, by decide +kernel⟩
set_option maxRecDepth 100000 in
set_option maxHeartbeats 4000000 in
theorem ct_L_add (l : Launch) (D : va_G) (cy : Nat → ClassId) (ad : Nat → Nat) (hJ : gJ ad) (hlf : l.stackTraces = false) (np : Nat) (lc : Nat → Nat) (x1 : Int32) (x2 : Int32) (x3 : Int32) (I : MI) (L : ML) (hnp : I 0 3 = nI np) (hnp10 : np ≤ 10) (hlc : ∀ pp, pp < 10 → I (95 + 4 * pp) 2 = nI (lc pp)) (hlc4 : ∀ pp, pp < 10 → lc pp ≤ 4) : gW l D cy ad yL_add cL_add 6 [(0, 12, 15, 13), (0, 12, 19, 15), (0, 12, 23, 17)] (gR 0 4 24) [.ref (ad 0), .int x1, .int x2, .int x3, .ref (ad 135)] I L (pq_L_add np lc x1 x2 x3 I L) := by
  refine gW_of hJ (by decide +kernel) kc_L_add (Nat.le_of_ble_eq_true rfl) (fun p e s m below meth c A ls C hr htb hP hS hl => ?_)
  have hx := C.hx
  have hb := C.hb
  have hl : lv_has ls 6 [(0, .ref (ad 0)), (1, .int x1), (2, .int x2), (3, .int x3), (4, .ref (ad 135))] := hl
  refine lv_aload hx hb dL_add_0 (lv_at hl 4 rfl) ?_
  refine lv_iconst (v := 0) hx hb dL_add_2 (by decide) ?_
  refine lv_aload_n hx hb dL_add_3 rfl (lv_at hl 0 rfl) ?_
  refine lv_iload_n hx hb dL_add_4 rfl (lv_at hl 1 rfl) ?_
  refine lv_iload_n hx hb dL_add_5 rfl (lv_at hl 2 rfl) ?_
  refine lv_iload_n hx hb dL_add_6 rfl (lv_at hl 3 rfl) ?_
  refine gC_callVi (As := [.int x1, .int x2, .int x3]) (rest := [.int 0, .ref (ad 135)]) C hP hS hl.1 (ct_X3_add l D cy ad hJ hlf np lc x1 x2 x3 I L hnp hnp10 hlc hlc4) fa_X3_add kl_L_19 ki_X3_add kse_X3_add (by decide) (T := TX3) rfl rfl rfl (by decide) (Nat.le_of_ble_eq_true rfl) (by decide) ?_ dL_add_7 rfl (fun v I1 L1 H locs hq hP hS => ?_)
  · intro E ce q9 I1 L1 H1 locs1 hpx hP1 hS1 hce hcv hcE
    rcases cE_X3_add np lc x1 x2 x3 hpx with rfl | rfl | rfl
    · refine g_catch C (pre := []) (z := (0, 12, 15, 13)) (suf := [(0, 12, 19, 15), (0, 12, 23, 17)]) htb (List.mem_of_getElem? (i := 0) rfl) (fun w h => absurd h List.not_mem_nil) (by decide) (by decide) kcl_L_13 (List.mem_of_getElem? (i := 3) rfl) hce hcv hcE ?_
      refine lv_astore (lv' := [(5, .ref q9), (0, .ref (ad 0)), (1, .int x1), (2, .int x2), (3, .int x3), (4, .ref (ad 135))]) hx hb dL_add_15 hl (by decide) rfl (fun ls hl => ?_)
      refine lv_iconst (v := 1) hx hb dL_add_17 (by decide) ?_
      exact gM_iret C hr hP1 hS1 (by decide) (by decide) dL_add_18 (Or.inr (Or.inl (⟨hpx, rfl⟩)))
    · refine g_catch C (pre := [(0, 12, 15, 13)]) (z := (0, 12, 19, 15)) (suf := [(0, 12, 23, 17)]) htb (List.mem_of_getElem? (i := 1) rfl) (List.forall_mem_cons.mpr ⟨⟨by decide, xIO, List.mem_of_getElem? (i := 0) rfl, kcl_L_13, by decide⟩, (fun w h => absurd h List.not_mem_nil)⟩) (by decide) (by decide) kcl_L_15 (List.mem_of_getElem? (i := 4) rfl) hce hcv hcE ?_
      refine lv_astore (lv' := [(5, .ref q9), (0, .ref (ad 0)), (1, .int x1), (2, .int x2), (3, .int x3), (4, .ref (ad 135))]) hx hb dL_add_19 hl (by decide) rfl (fun ls hl => ?_)
      refine lv_iconst (v := 2) hx hb dL_add_21 (by decide) ?_
      exact gM_iret C hr hP1 hS1 (by decide) (by decide) dL_add_22 (Or.inr (Or.inr (Or.inl (⟨hpx, rfl⟩))))
    · refine g_catch C (pre := [(0, 12, 15, 13), (0, 12, 19, 15)]) (z := (0, 12, 23, 17)) (suf := []) htb (List.mem_of_getElem? (i := 2) rfl) (List.forall_mem_cons.mpr ⟨⟨by decide, xIO, List.mem_of_getElem? (i := 0) rfl, kcl_L_13, by decide⟩, (List.forall_mem_cons.mpr ⟨⟨by decide, xIA, List.mem_of_getElem? (i := 1) rfl, kcl_L_15, by decide⟩, (fun w h => absurd h List.not_mem_nil)⟩)⟩) (by decide) (by decide) kcl_L_17 (List.mem_of_getElem? (i := 5) rfl) hce hcv hcE ?_
      refine lv_astore (lv' := [(5, .ref q9), (0, .ref (ad 0)), (1, .int x1), (2, .int x2), (3, .int x3), (4, .ref (ad 135))]) hx hb dL_add_23 hl (by decide) rfl (fun ls hl => ?_)
      refine lv_iconst (v := 3) hx hb dL_add_25 (by decide) ?_
      exact gM_iret C hr hP1 hS1 (by decide) (by decide) dL_add_26 (Or.inr (Or.inr (Or.inr (⟨hpx, rfl⟩))))
  · refine lv_i2l (v := v.toInt64) hx hb dL_add_10 rfl ?_
    refine g_last C hP hS 135 1 (by decide) (fun _ _ => rfl) (x := v.toInt64) 0 (show (0 : Int32) = nI 0 from rfl) (by omega) (by decide) dL_add_11 (fun H locs hP hS => ?_)
    refine lv_goto (tgt := 27) hx hb dL_add_12 (by decide) ?_
    refine lv_iconst (v := 0) hx hb dL_add_27 (by decide) ?_
    exact gM_iret C hr hP hS (by decide) (by decide) dL_add_28 (Or.inl (⟨v, L1, hq, rfl, rfl⟩))
theorem cE_X3_certify (np : Nat) (lc : Nat → Nat) (x1 : Int32) (x2 : Int32) {I I' : MI} {L L' : ML} {E : String} (h : px_X3_certify np lc x1 x2 I L E I' L') : E = xIO ∨ E = xUO ∨ E = xIS := by
  unfold px_X3_certify at h
  rcases h with ⟨-, h, -, -⟩ | ⟨-, -, h, -, -⟩ | ⟨-, -, -, h, -, -⟩ | ⟨-, -, -, -, -, h, -, -⟩ | ⟨-, -, -, -, -, -, h, -, -⟩ | ⟨-, -, -, -, h, -, -⟩
  · exact Or.inl h.symm
  · exact Or.inl h.symm
  · exact Or.inr (Or.inl h.symm)
  · exact Or.inr (Or.inr (h.symm))
  · exact Or.inr (Or.inr (h.symm))
  · exact Or.inr (Or.inr (h.symm))
def pq_L_certify (np : Nat) (lc : Nat → Nat) (x1 : Int32) (x2 : Int32) (I : MI) (L : ML) : Int32 → MI → ML → Prop := fun r I' L' => (pq_X3_certify np lc x1 x2 I L I' L' ∧ 0 = r) ∨ (px_X3_certify np lc x1 x2 I L xIO I' L' ∧ 1 = r) ∨ (px_X3_certify np lc x1 x2 I L xUO I' L' ∧ 2 = r) ∨ (px_X3_certify np lc x1 x2 I L xIS I' L' ∧ 3 = r)
theorem fw_L_certify : gFW yL_certify cL_certify 4 [(0, 6, 9, 13), (0, 6, 12, 27), (0, 6, 15, 17)] 3 := ⟨kc_L_certify, kini_L, ⟨by decide +kernel, by decide +kernel⟩, by decide +kernel⟩
set_option maxRecDepth 100000 in
set_option maxHeartbeats 4000000 in
theorem ct_L_certify (l : Launch) (D : va_G) (cy : Nat → ClassId) (ad : Nat → Nat) (hJ : gJ ad) (hlf : l.stackTraces = false) (np : Nat) (lc : Nat → Nat) (x1 : Int32) (x2 : Int32) (I : MI) (L : ML) (hnp : I 0 3 = nI np) (hnp10 : np ≤ 10) (hlc : ∀ pp, pp < 10 → I (95 + 4 * pp) 2 = nI (lc pp)) (hlc4 : ∀ pp, pp < 10 → lc pp ≤ 4) : gW l D cy ad yL_certify cL_certify 4 [(0, 6, 9, 13), (0, 6, 12, 27), (0, 6, 15, 17)] (gR 0 4 24) [.ref (ad 0), .int x1, .int x2] I L (pq_L_certify np lc x1 x2 I L) := by
  refine gW_of hJ (by decide +kernel) kc_L_certify (Nat.le_of_ble_eq_true rfl) (fun p e s m below meth c A ls C hr htb hP hS hl => ?_)
  have hx := C.hx
  have hb := C.hb
  have hl : lv_has ls 4 [(0, .ref (ad 0)), (1, .int x1), (2, .int x2)] := hl
  refine lv_aload_n hx hb dL_certify_0 rfl (lv_at hl 0 rfl) ?_
  refine lv_iload_n hx hb dL_certify_1 rfl (lv_at hl 1 rfl) ?_
  refine lv_iload_n hx hb dL_certify_2 rfl (lv_at hl 2 rfl) ?_
  refine gC_callVv (As := [.int x1, .int x2]) (rest := []) C hP hS hl.1 (ct_X3_certify l D cy ad hJ hlf np lc x1 x2 I L hnp hnp10 hlc hlc4) fa_X3_certify kl_L_23 ki_X3_certify kse_X3_certify (by decide) (T := TX3) rfl rfl rfl (by decide) (Nat.le_of_ble_eq_true rfl) (by decide) ?_ dL_certify_3 rfl (fun I1 L1 H locs hq hP hS => ?_)
  · intro E ce q9 I1 L1 H1 locs1 hpx hP1 hS1 hce hcv hcE
    rcases cE_X3_certify np lc x1 x2 hpx with rfl | rfl | rfl
    · refine g_catch C (pre := []) (z := (0, 6, 9, 13)) (suf := [(0, 6, 12, 27), (0, 6, 15, 17)]) htb (List.mem_of_getElem? (i := 0) rfl) (fun w h => absurd h List.not_mem_nil) (by decide) (by decide) kcl_L_13 (List.mem_of_getElem? (i := 3) rfl) hce hcv hcE ?_
      refine lv_astore_n (lv' := [(3, .ref q9), (0, .ref (ad 0)), (1, .int x1), (2, .int x2)]) hx hb dL_certify_9 rfl hl (by decide) rfl (fun ls hl => ?_)
      refine lv_iconst (v := 1) hx hb dL_certify_10 (by decide) ?_
      exact gM_iret C hr hP1 hS1 (by decide) (by decide) dL_certify_11 (Or.inr (Or.inl (⟨hpx, rfl⟩)))
    · refine g_catch C (pre := [(0, 6, 9, 13)]) (z := (0, 6, 12, 27)) (suf := [(0, 6, 15, 17)]) htb (List.mem_of_getElem? (i := 3) rfl) (List.forall_mem_cons.mpr ⟨⟨by decide, xIO, List.mem_of_getElem? (i := 0) rfl, kcl_L_13, by decide⟩, (fun w h => absurd h List.not_mem_nil)⟩) (by decide) (by decide) kcl_L_27 (List.mem_of_getElem? (i := 6) rfl) hce hcv hcE ?_
      refine lv_astore_n (lv' := [(3, .ref q9), (0, .ref (ad 0)), (1, .int x1), (2, .int x2)]) hx hb dL_certify_12 rfl hl (by decide) rfl (fun ls hl => ?_)
      refine lv_iconst (v := 2) hx hb dL_certify_13 (by decide) ?_
      exact gM_iret C hr hP1 hS1 (by decide) (by decide) dL_certify_14 (Or.inr (Or.inr (Or.inl (⟨hpx, rfl⟩))))
    · refine g_catch C (pre := [(0, 6, 9, 13), (0, 6, 12, 27)]) (z := (0, 6, 15, 17)) (suf := []) htb (List.mem_of_getElem? (i := 2) rfl) (List.forall_mem_cons.mpr ⟨⟨by decide, xIO, List.mem_of_getElem? (i := 0) rfl, kcl_L_13, by decide⟩, (List.forall_mem_cons.mpr ⟨⟨by decide, xUO, List.mem_of_getElem? (i := 3) rfl, kcl_L_27, by decide⟩, (fun w h => absurd h List.not_mem_nil)⟩)⟩) (by decide) (by decide) kcl_L_17 (List.mem_of_getElem? (i := 5) rfl) hce hcv hcE ?_
      refine lv_astore_n (lv' := [(3, .ref q9), (0, .ref (ad 0)), (1, .int x1), (2, .int x2)]) hx hb dL_certify_15 rfl hl (by decide) rfl (fun ls hl => ?_)
      refine lv_iconst (v := 3) hx hb dL_certify_16 (by decide) ?_
      exact gM_iret C hr hP1 hS1 (by decide) (by decide) dL_certify_17 (Or.inr (Or.inr (Or.inr (⟨hpx, rfl⟩))))
  · skip
    refine lv_goto (tgt := 18) hx hb dL_certify_6 (by decide) ?_
    refine lv_iconst (v := 0) hx hb dL_certify_18 (by decide) ?_
    exact gM_iret C hr hP hS (by decide) (by decide) dL_certify_19 (Or.inl (⟨hq, rfl⟩))
theorem cE_X3_grant (np : Nat) (x1 : Int32) (x2 : Int32) (x3 : Int32) (x4 : Int32) {I I' : MI} {L L' : ML} {E : String} (h : px_X3_grant np x1 x2 x3 x4 I L E I' L') : E = xIO ∨ E = xUO := by
  unfold px_X3_grant at h
  rcases h with ⟨-, h, -, -⟩ | ⟨-, -, h, -, -⟩ | ⟨-, -, -, h, -, -⟩ | ⟨-, -, -, -, h, -, -⟩ | ⟨-, -, -, -, -, h, -, -⟩
  · exact Or.inl h.symm
  · exact Or.inl h.symm
  · exact Or.inl h.symm
  · exact Or.inr (h.symm)
  · exact Or.inr (h.symm)
def pq_L_grant (np : Nat) (x1 : Int32) (x2 : Int32) (x3 : Int32) (x4 : Int32) (I : MI) (L : ML) : Int32 → MI → ML → Prop := fun r I' L' => (∃ (v : Int32) (L1 : ML), pq_X3_grant np x1 x2 x3 x4 I L v I' L1 ∧ sL L1 135 0 (if v = 0 then 0 else 1) = L' ∧ 0 = r) ∨ (px_X3_grant np x1 x2 x3 x4 I L xIO I' L' ∧ 1 = r) ∨ (px_X3_grant np x1 x2 x3 x4 I L xUO I' L' ∧ 2 = r)
theorem fw_L_grant : gFW yL_grant cL_grant 7 [(0, 21, 24, 13), (0, 21, 28, 27)] 6 := ⟨kc_L_grant, kini_L, ⟨by decide +kernel, by decide +kernel⟩, by decide +kernel⟩
set_option maxRecDepth 100000 in
set_option maxHeartbeats 4000000 in
theorem ct_L_grant (l : Launch) (D : va_G) (cy : Nat → ClassId) (ad : Nat → Nat) (hJ : gJ ad) (hlf : l.stackTraces = false) (np : Nat) (x1 : Int32) (x2 : Int32) (x3 : Int32) (x4 : Int32) (I : MI) (L : ML) (hnp : I 0 3 = nI np) (hnp10 : np ≤ 10) (hb4 : x4 = 0 ∨ x4 = 1) : gW l D cy ad yL_grant cL_grant 7 [(0, 21, 24, 13), (0, 21, 28, 27)] (gR 0 5 30) [.ref (ad 0), .int x1, .int x2, .int x3, .int x4, .ref (ad 135)] I L (pq_L_grant np x1 x2 x3 x4 I L) := by
  refine gW_of hJ (by decide +kernel) kc_L_grant (Nat.le_of_ble_eq_true rfl) (fun p e s m below meth c A ls C hr htb hP hS hl => ?_)
  have hx := C.hx
  have hb := C.hb
  have hl : lv_has ls 7 [(0, .ref (ad 0)), (1, .int x1), (2, .int x2), (3, .int x3), (4, .int x4), (5, .ref (ad 135))] := hl
  refine lv_aload hx hb dL_grant_0 (lv_at hl 5 rfl) ?_
  refine lv_iconst (v := 0) hx hb dL_grant_2 (by decide) ?_
  refine lv_aload_n hx hb dL_grant_3 rfl (lv_at hl 0 rfl) ?_
  refine lv_iload_n hx hb dL_grant_4 rfl (lv_at hl 1 rfl) ?_
  refine lv_iload_n hx hb dL_grant_5 rfl (lv_at hl 2 rfl) ?_
  refine lv_iload_n hx hb dL_grant_6 rfl (lv_at hl 3 rfl) ?_
  refine lv_iload hx hb dL_grant_7 (lv_at hl 4 rfl) ?_
  refine gC_callVi (As := [.int x1, .int x2, .int x3, .int x4]) (rest := [.int 0, .ref (ad 135)]) C hP hS hl.1 (ct_X3_grant l D cy ad hJ hlf np x1 x2 x3 x4 I L hnp hnp10 hb4) fa_X3_grant kl_L_29 ki_X3_grant kse_X3_grant (by decide) (T := TX3) rfl rfl rfl (by decide) (Nat.le_of_ble_eq_true rfl) (by decide) ?_ dL_grant_9 rfl (fun v I1 L1 H locs hq hP hS => ?_)
  · intro E ce q9 I1 L1 H1 locs1 hpx hP1 hS1 hce hcv hcE
    rcases cE_X3_grant np x1 x2 x3 x4 hpx with rfl | rfl
    · refine g_catch C (pre := []) (z := (0, 21, 24, 13)) (suf := [(0, 21, 28, 27)]) htb (List.mem_of_getElem? (i := 0) rfl) (fun w h => absurd h List.not_mem_nil) (by decide) (by decide) kcl_L_13 (List.mem_of_getElem? (i := 3) rfl) hce hcv hcE ?_
      refine lv_astore (lv' := [(6, .ref q9), (0, .ref (ad 0)), (1, .int x1), (2, .int x2), (3, .int x3), (4, .int x4), (5, .ref (ad 135))]) hx hb dL_grant_24 hl (by decide) rfl (fun ls hl => ?_)
      refine lv_iconst (v := 1) hx hb dL_grant_26 (by decide) ?_
      exact gM_iret C hr hP1 hS1 (by decide) (by decide) dL_grant_27 (Or.inr (Or.inl (⟨hpx, rfl⟩)))
    · refine g_catch C (pre := [(0, 21, 24, 13)]) (z := (0, 21, 28, 27)) (suf := []) htb (List.mem_of_getElem? (i := 3) rfl) (List.forall_mem_cons.mpr ⟨⟨by decide, xIO, List.mem_of_getElem? (i := 0) rfl, kcl_L_13, by decide⟩, (fun w h => absurd h List.not_mem_nil)⟩) (by decide) (by decide) kcl_L_27 (List.mem_of_getElem? (i := 6) rfl) hce hcv hcE ?_
      refine lv_astore (lv' := [(6, .ref q9), (0, .ref (ad 0)), (1, .int x1), (2, .int x2), (3, .int x3), (4, .int x4), (5, .ref (ad 135))]) hx hb dL_grant_28 hl (by decide) rfl (fun ls hl => ?_)
      refine lv_iconst (v := 2) hx hb dL_grant_30 (by decide) ?_
      exact gM_iret C hr hP1 hS1 (by decide) (by decide) dL_grant_31 (Or.inr (Or.inr (⟨hpx, rfl⟩)))
  · refine lv_if_eq (tgt := 19) hx hb dL_grant_12 (by decide) (fun c9 => ?_) (fun c9 => ?_)
    · refine lv_lconst (v := 0) hx hb dL_grant_19 (by decide) ?_
      refine g_last C hP hS 135 1 (by decide) (fun _ _ => rfl) (x := 0) 0 (show (0 : Int32) = nI 0 from rfl) (by omega) (by decide) dL_grant_20 (fun H locs hP hS => ?_)
      refine lv_goto (tgt := 32) hx hb dL_grant_21 (by decide) ?_
      refine lv_iconst (v := 0) hx hb dL_grant_32 (by decide) ?_
      exact gM_iret C hr hP hS (by decide) (by decide) dL_grant_33 (Or.inl (⟨v, L1, hq, by rw [if_pos c9], rfl⟩))
    · refine lv_lconst (v := 1) hx hb dL_grant_15 (by decide) ?_
      refine lv_goto (tgt := 20) hx hb dL_grant_16 (by decide) ?_
      refine g_last C hP hS 135 1 (by decide) (fun _ _ => rfl) (x := 1) 0 (show (0 : Int32) = nI 0 from rfl) (by omega) (by decide) dL_grant_20 (fun H locs hP hS => ?_)
      refine lv_goto (tgt := 32) hx hb dL_grant_21 (by decide) ?_
      refine lv_iconst (v := 0) hx hb dL_grant_32 (by decide) ?_
      exact gM_iret C hr hP hS (by decide) (by decide) dL_grant_33 (Or.inl (⟨v, L1, hq, by rw [if_neg c9], rfl⟩))
theorem cE_X3_floor (x1 : Int32) (x2 : Int32) (x3 : Int64) {I I' : MI} {L L' : ML} {E : String} (h : px_X3_floor x1 x2 x3 I L E I' L') : E = xIO ∨ E = xUO ∨ E = xIA := by
  unfold px_X3_floor at h
  rcases h with ⟨-, h, -, -⟩ | ⟨-, -, h, -, -⟩ | ⟨-, -, -, h, -, -⟩ | ⟨-, -, -, -, h, -, -⟩ | ⟨-, -, -, -, -, h, -, -⟩
  · exact Or.inl h.symm
  · exact Or.inl h.symm
  · exact Or.inr (Or.inl h.symm)
  · exact Or.inr (Or.inr (h.symm))
  · exact Or.inr (Or.inr (h.symm))
def pq_L_floor (x1 : Int32) (x2 : Int32) (x3 : Int64) (I : MI) (L : ML) : Int32 → MI → ML → Prop := fun r I' L' => (∃ (v : Int64) (L1 : ML), pq_X3_floor x1 x2 x3 I L v I' L1 ∧ sL L1 135 0 v = L' ∧ 0 = r) ∨ (px_X3_floor x1 x2 x3 I L xIO I' L' ∧ 1 = r) ∨ (px_X3_floor x1 x2 x3 I L xUO I' L' ∧ 2 = r) ∨ (px_X3_floor x1 x2 x3 I L xIA I' L' ∧ 3 = r)
theorem fw_L_floor : gFW yL_floor cL_floor 7 [(0, 11, 14, 13), (0, 11, 18, 27), (0, 11, 22, 15)] 5 := ⟨kc_L_floor, kini_L, ⟨by decide +kernel, by decide +kernel⟩, by decide +kernel⟩
set_option maxRecDepth 100000 in
set_option maxHeartbeats 4000000 in
theorem ct_L_floor (l : Launch) (D : va_G) (cy : Nat → ClassId) (ad : Nat → Nat) (hJ : gJ ad) (hlf : l.stackTraces = false) (x1 : Int32) (x2 : Int32) (x3 : Int64) (I : MI) (L : ML) : gW l D cy ad yL_floor cL_floor 7 [(0, 11, 14, 13), (0, 11, 18, 27), (0, 11, 22, 15)] (gR 0 4 24) [.ref (ad 0), .int x1, .int x2, .long x3, .ref (ad 135)] I L (pq_L_floor x1 x2 x3 I L) := by
  refine gW_of hJ (by decide +kernel) kc_L_floor (Nat.le_of_ble_eq_true rfl) (fun p e s m below meth c A ls C hr htb hP hS hl => ?_)
  have hx := C.hx
  have hb := C.hb
  have hl : lv_has ls 7 [(0, .ref (ad 0)), (1, .int x1), (2, .int x2), (3, .long x3), (5, .ref (ad 135))] := hl
  refine lv_aload hx hb dL_floor_0 (lv_at hl 4 rfl) ?_
  refine lv_iconst (v := 0) hx hb dL_floor_2 (by decide) ?_
  refine lv_aload_n hx hb dL_floor_3 rfl (lv_at hl 0 rfl) ?_
  refine lv_iload_n hx hb dL_floor_4 rfl (lv_at hl 1 rfl) ?_
  refine lv_iload_n hx hb dL_floor_5 rfl (lv_at hl 2 rfl) ?_
  refine lv_lload_n hx hb dL_floor_6 rfl (lv_at hl 3 rfl) ?_
  refine gC_callVl (As := [.int x1, .int x2, .long x3]) (rest := [.int 0, .ref (ad 135)]) C hP hS hl.1 (ct_X3_floor l D cy ad hJ hlf x1 x2 x3 I L) fa_X3_floor kl_L_33 ki_X3_floor kse_X3_floor (by decide) (T := TX3) rfl rfl rfl (by decide) (Nat.le_of_ble_eq_true rfl) (by decide) ?_ dL_floor_7 rfl (fun v I1 L1 H locs hq hP hS => ?_)
  · intro E ce q9 I1 L1 H1 locs1 hpx hP1 hS1 hce hcv hcE
    rcases cE_X3_floor x1 x2 x3 hpx with rfl | rfl | rfl
    · refine g_catch C (pre := []) (z := (0, 11, 14, 13)) (suf := [(0, 11, 18, 27), (0, 11, 22, 15)]) htb (List.mem_of_getElem? (i := 0) rfl) (fun w h => absurd h List.not_mem_nil) (by decide) (by decide) kcl_L_13 (List.mem_of_getElem? (i := 3) rfl) hce hcv hcE ?_
      refine lv_astore (lv' := [(6, .ref q9), (0, .ref (ad 0)), (1, .int x1), (2, .int x2), (3, .long x3), (5, .ref (ad 135))]) hx hb dL_floor_14 hl (by decide) rfl (fun ls hl => ?_)
      refine lv_iconst (v := 1) hx hb dL_floor_16 (by decide) ?_
      exact gM_iret C hr hP1 hS1 (by decide) (by decide) dL_floor_17 (Or.inr (Or.inl (⟨hpx, rfl⟩)))
    · refine g_catch C (pre := [(0, 11, 14, 13)]) (z := (0, 11, 18, 27)) (suf := [(0, 11, 22, 15)]) htb (List.mem_of_getElem? (i := 3) rfl) (List.forall_mem_cons.mpr ⟨⟨by decide, xIO, List.mem_of_getElem? (i := 0) rfl, kcl_L_13, by decide⟩, (fun w h => absurd h List.not_mem_nil)⟩) (by decide) (by decide) kcl_L_27 (List.mem_of_getElem? (i := 6) rfl) hce hcv hcE ?_
      refine lv_astore (lv' := [(6, .ref q9), (0, .ref (ad 0)), (1, .int x1), (2, .int x2), (3, .long x3), (5, .ref (ad 135))]) hx hb dL_floor_18 hl (by decide) rfl (fun ls hl => ?_)
      refine lv_iconst (v := 2) hx hb dL_floor_20 (by decide) ?_
      exact gM_iret C hr hP1 hS1 (by decide) (by decide) dL_floor_21 (Or.inr (Or.inr (Or.inl (⟨hpx, rfl⟩))))
    · refine g_catch C (pre := [(0, 11, 14, 13), (0, 11, 18, 27)]) (z := (0, 11, 22, 15)) (suf := []) htb (List.mem_of_getElem? (i := 1) rfl) (List.forall_mem_cons.mpr ⟨⟨by decide, xIO, List.mem_of_getElem? (i := 0) rfl, kcl_L_13, by decide⟩, (List.forall_mem_cons.mpr ⟨⟨by decide, xUO, List.mem_of_getElem? (i := 3) rfl, kcl_L_27, by decide⟩, (fun w h => absurd h List.not_mem_nil)⟩)⟩) (by decide) (by decide) kcl_L_15 (List.mem_of_getElem? (i := 4) rfl) hce hcv hcE ?_
      refine lv_astore (lv' := [(6, .ref q9), (0, .ref (ad 0)), (1, .int x1), (2, .int x2), (3, .long x3), (5, .ref (ad 135))]) hx hb dL_floor_22 hl (by decide) rfl (fun ls hl => ?_)
      refine lv_iconst (v := 3) hx hb dL_floor_24 (by decide) ?_
      exact gM_iret C hr hP1 hS1 (by decide) (by decide) dL_floor_25 (Or.inr (Or.inr (Or.inr (⟨hpx, rfl⟩))))
  · skip
    refine g_last C hP hS 135 1 (by decide) (fun _ _ => rfl) (x := v) 0 (show (0 : Int32) = nI 0 from rfl) (by omega) (by decide) dL_floor_10 (fun H locs hP hS => ?_)
    refine lv_goto (tgt := 26) hx hb dL_floor_11 (by decide) ?_
    refine lv_iconst (v := 0) hx hb dL_floor_26 (by decide) ?_
    exact gM_iret C hr hP hS (by decide) (by decide) dL_floor_27 (Or.inl (⟨v, L1, hq, rfl, rfl⟩))
theorem cE_X3_ask (np : Nat) (ne : Nat) (lc : Nat → Nat) (x1 : Int32) (x2 : Int32) (x3 : Int64) {I I' : MI} {L L' : ML} {E : String} (h : px_X3_ask np ne lc x1 x2 x3 I L E I' L') : E = xIO ∨ E = xUO ∨ E = xIA ∨ E = xIS := by
  unfold px_X3_ask at h
  rcases h with ⟨-, h, -, -⟩ | ⟨-, -, h, -, -⟩ | ⟨-, -, -, h, -, -⟩ | ⟨-, -, -, -, h, -, -⟩ | ⟨-, -, -, -, -, -, -, h, -, -⟩ | ⟨-, -, -, -, -, -, h, -, -⟩ | ⟨-, -, -, -, -, -, -, -, -, h, -, -⟩ | ⟨-, -, -, -, -, -, -, -, -, h, -, -⟩ | ⟨-, -, -, -, -, h, -, -⟩
  · exact Or.inl h.symm
  · exact Or.inl h.symm
  · exact Or.inr (Or.inl h.symm)
  · exact Or.inr (Or.inr (Or.inl h.symm))
  · exact Or.inr (Or.inr (Or.inr (h.symm)))
  · exact Or.inr (Or.inr (Or.inr (h.symm)))
  · exact Or.inr (Or.inr (Or.inr (h.symm)))
  · exact Or.inr (Or.inr (Or.inr (h.symm)))
  · exact Or.inr (Or.inr (Or.inl h.symm))
def pq_L_ask (np : Nat) (ne : Nat) (lc : Nat → Nat) (x1 : Int32) (x2 : Int32) (x3 : Int64) (I : MI) (L : ML) : Int32 → MI → ML → Prop := fun r I' L' => (∃ (v : Int32) (L1 : ML), pq_X3_ask np ne lc x1 x2 x3 I L v I' L1 ∧ sL L1 135 0 v.toInt64 = L' ∧ 0 = r) ∨ (px_X3_ask np ne lc x1 x2 x3 I L xIO I' L' ∧ 1 = r) ∨ (px_X3_ask np ne lc x1 x2 x3 I L xUO I' L' ∧ 2 = r) ∨ (px_X3_ask np ne lc x1 x2 x3 I L xIA I' L' ∧ 3 = r) ∨ (px_X3_ask np ne lc x1 x2 x3 I L xIS I' L' ∧ 4 = r)
theorem fw_L_ask : gFW yL_ask cL_ask 7 [(0, 12, 15, 13), (0, 12, 19, 27), (0, 12, 23, 15), (0, 12, 27, 17)] 5 := ⟨kc_L_ask, kini_L, ⟨by decide +kernel, by decide +kernel⟩, by decide +kernel⟩
set_option maxRecDepth 100000 in
set_option maxHeartbeats 4000000 in
theorem ct_L_ask (l : Launch) (D : va_G) (cy : Nat → ClassId) (ad : Nat → Nat) (hJ : gJ ad) (hlf : l.stackTraces = false) (np : Nat) (ne : Nat) (lc : Nat → Nat) (x1 : Int32) (x2 : Int32) (x3 : Int64) (I : MI) (L : ML) (hnp : I 0 3 = nI np) (hnp10 : np ≤ 10) (hne : I 0 6 = nI ne) (hne40 : ne ≤ 40) (hlc : ∀ pp, pp < 10 → I (95 + 4 * pp) 2 = nI (lc pp)) (hlc4 : ∀ pp, pp < 10 → lc pp ≤ 4) (hlc1 : ∀ pp, pp < np → 1 ≤ lc pp) (hac : ∀ pp, pp < 10 → ∀ k, k < lc pp → vp_in (I (96 + 4 * pp) k) 8) : gW l D cy ad yL_ask cL_ask 7 [(0, 12, 15, 13), (0, 12, 19, 27), (0, 12, 23, 15), (0, 12, 27, 17)] (gR 0 5 30) [.ref (ad 0), .int x1, .int x2, .long x3, .ref (ad 135)] I L (pq_L_ask np ne lc x1 x2 x3 I L) := by
  refine gW_of hJ (by decide +kernel) kc_L_ask (Nat.le_of_ble_eq_true rfl) (fun p e s m below meth c A ls C hr htb hP hS hl => ?_)
  have hx := C.hx
  have hb := C.hb
  have hl : lv_has ls 7 [(0, .ref (ad 0)), (1, .int x1), (2, .int x2), (3, .long x3), (5, .ref (ad 135))] := hl
  refine lv_aload hx hb dL_ask_0 (lv_at hl 4 rfl) ?_
  refine lv_iconst (v := 0) hx hb dL_ask_2 (by decide) ?_
  refine lv_aload_n hx hb dL_ask_3 rfl (lv_at hl 0 rfl) ?_
  refine lv_iload_n hx hb dL_ask_4 rfl (lv_at hl 1 rfl) ?_
  refine lv_iload_n hx hb dL_ask_5 rfl (lv_at hl 2 rfl) ?_
  refine lv_lload_n hx hb dL_ask_6 rfl (lv_at hl 3 rfl) ?_
  refine gC_callVi (As := [.int x1, .int x2, .long x3]) (rest := [.int 0, .ref (ad 135)]) C hP hS hl.1 (ct_X3_ask l D cy ad hJ hlf np ne lc x1 x2 x3 I L hnp hnp10 hne hne40 hlc hlc4 hlc1 hac) fa_X3_ask kl_L_37 ki_X3_ask kse_X3_ask (by decide) (T := TX3) rfl rfl rfl (by decide) (Nat.le_of_ble_eq_true rfl) (by decide) ?_ dL_ask_7 rfl (fun v I1 L1 H locs hq hP hS => ?_)
  · intro E ce q9 I1 L1 H1 locs1 hpx hP1 hS1 hce hcv hcE
    rcases cE_X3_ask np ne lc x1 x2 x3 hpx with rfl | rfl | rfl | rfl
    · refine g_catch C (pre := []) (z := (0, 12, 15, 13)) (suf := [(0, 12, 19, 27), (0, 12, 23, 15), (0, 12, 27, 17)]) htb (List.mem_of_getElem? (i := 0) rfl) (fun w h => absurd h List.not_mem_nil) (by decide) (by decide) kcl_L_13 (List.mem_of_getElem? (i := 3) rfl) hce hcv hcE ?_
      refine lv_astore (lv' := [(6, .ref q9), (0, .ref (ad 0)), (1, .int x1), (2, .int x2), (3, .long x3), (5, .ref (ad 135))]) hx hb dL_ask_15 hl (by decide) rfl (fun ls hl => ?_)
      refine lv_iconst (v := 1) hx hb dL_ask_17 (by decide) ?_
      exact gM_iret C hr hP1 hS1 (by decide) (by decide) dL_ask_18 (Or.inr (Or.inl (⟨hpx, rfl⟩)))
    · refine g_catch C (pre := [(0, 12, 15, 13)]) (z := (0, 12, 19, 27)) (suf := [(0, 12, 23, 15), (0, 12, 27, 17)]) htb (List.mem_of_getElem? (i := 3) rfl) (List.forall_mem_cons.mpr ⟨⟨by decide, xIO, List.mem_of_getElem? (i := 0) rfl, kcl_L_13, by decide⟩, (fun w h => absurd h List.not_mem_nil)⟩) (by decide) (by decide) kcl_L_27 (List.mem_of_getElem? (i := 6) rfl) hce hcv hcE ?_
      refine lv_astore (lv' := [(6, .ref q9), (0, .ref (ad 0)), (1, .int x1), (2, .int x2), (3, .long x3), (5, .ref (ad 135))]) hx hb dL_ask_19 hl (by decide) rfl (fun ls hl => ?_)
      refine lv_iconst (v := 2) hx hb dL_ask_21 (by decide) ?_
      exact gM_iret C hr hP1 hS1 (by decide) (by decide) dL_ask_22 (Or.inr (Or.inr (Or.inl (⟨hpx, rfl⟩))))
    · refine g_catch C (pre := [(0, 12, 15, 13), (0, 12, 19, 27)]) (z := (0, 12, 23, 15)) (suf := [(0, 12, 27, 17)]) htb (List.mem_of_getElem? (i := 1) rfl) (List.forall_mem_cons.mpr ⟨⟨by decide, xIO, List.mem_of_getElem? (i := 0) rfl, kcl_L_13, by decide⟩, (List.forall_mem_cons.mpr ⟨⟨by decide, xUO, List.mem_of_getElem? (i := 3) rfl, kcl_L_27, by decide⟩, (fun w h => absurd h List.not_mem_nil)⟩)⟩) (by decide) (by decide) kcl_L_15 (List.mem_of_getElem? (i := 4) rfl) hce hcv hcE ?_
      refine lv_astore (lv' := [(6, .ref q9), (0, .ref (ad 0)), (1, .int x1), (2, .int x2), (3, .long x3), (5, .ref (ad 135))]) hx hb dL_ask_23 hl (by decide) rfl (fun ls hl => ?_)
      refine lv_iconst (v := 3) hx hb dL_ask_25 (by decide) ?_
      exact gM_iret C hr hP1 hS1 (by decide) (by decide) dL_ask_26 (Or.inr (Or.inr (Or.inr (Or.inl (⟨hpx, rfl⟩)))))
    · refine g_catch C (pre := [(0, 12, 15, 13), (0, 12, 19, 27), (0, 12, 23, 15)]) (z := (0, 12, 27, 17)) (suf := []) htb (List.mem_of_getElem? (i := 2) rfl) (List.forall_mem_cons.mpr ⟨⟨by decide, xIO, List.mem_of_getElem? (i := 0) rfl, kcl_L_13, by decide⟩, (List.forall_mem_cons.mpr ⟨⟨by decide, xUO, List.mem_of_getElem? (i := 3) rfl, kcl_L_27, by decide⟩, (List.forall_mem_cons.mpr ⟨⟨by decide, xIA, List.mem_of_getElem? (i := 1) rfl, kcl_L_15, by decide⟩, (fun w h => absurd h List.not_mem_nil)⟩)⟩)⟩) (by decide) (by decide) kcl_L_17 (List.mem_of_getElem? (i := 5) rfl) hce hcv hcE ?_
      refine lv_astore (lv' := [(6, .ref q9), (0, .ref (ad 0)), (1, .int x1), (2, .int x2), (3, .long x3), (5, .ref (ad 135))]) hx hb dL_ask_27 hl (by decide) rfl (fun ls hl => ?_)
      refine lv_iconst (v := 4) hx hb dL_ask_29 (by decide) ?_
      exact gM_iret C hr hP1 hS1 (by decide) (by decide) dL_ask_30 (Or.inr (Or.inr (Or.inr (Or.inr (⟨hpx, rfl⟩)))))
  · refine lv_i2l (v := v.toInt64) hx hb dL_ask_10 rfl ?_
    refine g_last C hP hS 135 1 (by decide) (fun _ _ => rfl) (x := v.toInt64) 0 (show (0 : Int32) = nI 0 from rfl) (by omega) (by decide) dL_ask_11 (fun H locs hP hS => ?_)
    refine lv_goto (tgt := 31) hx hb dL_ask_12 (by decide) ?_
    refine lv_iconst (v := 0) hx hb dL_ask_31 (by decide) ?_
    exact gM_iret C hr hP hS (by decide) (by decide) dL_ask_32 (Or.inl (⟨v, L1, hq, rfl, rfl⟩))
theorem cE_X3_approve (np : Nat) (ne : Nat) (lc : Nat → Nat) (x1 : Int32) (x2 : Int32) {I I' : MI} {L L' : ML} {E : String} (h : px_X3_approve np ne lc x1 x2 I L E I' L') : E = xIO ∨ E = xUO ∨ E = xIS := by
  unfold px_X3_approve at h
  rcases h with ⟨-, h, -, -⟩ | ⟨-, -, h, -, -⟩ | ⟨-, -, -, -, h, -, -⟩ | ⟨-, -, -, -, -, -, h, -, -⟩ | ⟨-, -, -, -, -, h, -, -⟩ | ⟨-, -, -, -, -, -, -, h, -, -⟩ | ⟨-, -, -, h, -, -⟩
  · exact Or.inl h.symm
  · exact Or.inl h.symm
  · exact Or.inr (Or.inl h.symm)
  · exact Or.inr (Or.inr (h.symm))
  · exact Or.inr (Or.inr (h.symm))
  · exact Or.inr (Or.inr (h.symm))
  · exact Or.inr (Or.inl h.symm)
def pq_L_approve (np : Nat) (ne : Nat) (lc : Nat → Nat) (x1 : Int32) (x2 : Int32) (I : MI) (L : ML) : Int32 → MI → ML → Prop := fun r I' L' => (∃ (v : Int32) (L1 : ML), pq_X3_approve np ne lc x1 x2 I L v I' L1 ∧ sL L1 135 0 v.toInt64 = L' ∧ 0 = r) ∨ (px_X3_approve np ne lc x1 x2 I L xIO I' L' ∧ 1 = r) ∨ (px_X3_approve np ne lc x1 x2 I L xUO I' L' ∧ 2 = r) ∨ (px_X3_approve np ne lc x1 x2 I L xIS I' L' ∧ 3 = r)
theorem fw_L_approve : gFW yL_approve cL_approve 5 [(0, 10, 13, 13), (0, 10, 17, 27), (0, 10, 21, 17)] 4 := ⟨kc_L_approve, kini_L, ⟨by decide +kernel, by decide +kernel⟩, by decide +kernel⟩
set_option maxRecDepth 100000 in
set_option maxHeartbeats 4000000 in
theorem ct_L_approve (l : Launch) (D : va_G) (cy : Nat → ClassId) (ad : Nat → Nat) (hJ : gJ ad) (hlf : l.stackTraces = false) (np : Nat) (ne : Nat) (lc : Nat → Nat) (x1 : Int32) (x2 : Int32) (I : MI) (L : ML) (hnp : I 0 3 = nI np) (hnp10 : np ≤ 10) (hne : I 0 6 = nI ne) (hne40 : ne ≤ 40) (hlc : ∀ pp, pp < 10 → I (95 + 4 * pp) 2 = nI (lc pp)) (hlc4 : ∀ pp, pp < 10 → lc pp ≤ 4) (hlc1 : ∀ pp, pp < np → 1 ≤ lc pp) (hac : ∀ pp, pp < 10 → ∀ k, k < lc pp → vp_in (I (96 + 4 * pp) k) 8) : gW l D cy ad yL_approve cL_approve 5 [(0, 10, 13, 13), (0, 10, 17, 27), (0, 10, 21, 17)] (gR 0 5 30) [.ref (ad 0), .int x1, .int x2, .ref (ad 135)] I L (pq_L_approve np ne lc x1 x2 I L) := by
  refine gW_of hJ (by decide +kernel) kc_L_approve (Nat.le_of_ble_eq_true rfl) (fun p e s m below meth c A ls C hr htb hP hS hl => ?_)
  have hx := C.hx
  have hb := C.hb
  have hl : lv_has ls 5 [(0, .ref (ad 0)), (1, .int x1), (2, .int x2), (3, .ref (ad 135))] := hl
  refine lv_aload_n hx hb dL_approve_0 rfl (lv_at hl 3 rfl) ?_
  refine lv_iconst (v := 0) hx hb dL_approve_1 (by decide) ?_
  refine lv_aload_n hx hb dL_approve_2 rfl (lv_at hl 0 rfl) ?_
  refine lv_iload_n hx hb dL_approve_3 rfl (lv_at hl 1 rfl) ?_
  refine lv_iload_n hx hb dL_approve_4 rfl (lv_at hl 2 rfl) ?_
  refine gC_callVi (As := [.int x1, .int x2]) (rest := [.int 0, .ref (ad 135)]) C hP hS hl.1 (ct_X3_approve l D cy ad hJ hlf np ne lc x1 x2 I L hnp hnp10 hne hne40 hlc hlc4 hlc1 hac) fa_X3_approve kl_L_41 ki_X3_approve kse_X3_approve (by decide) (T := TX3) rfl rfl rfl (by decide) (Nat.le_of_ble_eq_true rfl) (by decide) ?_ dL_approve_5 rfl (fun v I1 L1 H locs hq hP hS => ?_)
  · intro E ce q9 I1 L1 H1 locs1 hpx hP1 hS1 hce hcv hcE
    rcases cE_X3_approve np ne lc x1 x2 hpx with rfl | rfl | rfl
    · refine g_catch C (pre := []) (z := (0, 10, 13, 13)) (suf := [(0, 10, 17, 27), (0, 10, 21, 17)]) htb (List.mem_of_getElem? (i := 0) rfl) (fun w h => absurd h List.not_mem_nil) (by decide) (by decide) kcl_L_13 (List.mem_of_getElem? (i := 3) rfl) hce hcv hcE ?_
      refine lv_astore (lv' := [(4, .ref q9), (0, .ref (ad 0)), (1, .int x1), (2, .int x2), (3, .ref (ad 135))]) hx hb dL_approve_13 hl (by decide) rfl (fun ls hl => ?_)
      refine lv_iconst (v := 1) hx hb dL_approve_15 (by decide) ?_
      exact gM_iret C hr hP1 hS1 (by decide) (by decide) dL_approve_16 (Or.inr (Or.inl (⟨hpx, rfl⟩)))
    · refine g_catch C (pre := [(0, 10, 13, 13)]) (z := (0, 10, 17, 27)) (suf := [(0, 10, 21, 17)]) htb (List.mem_of_getElem? (i := 3) rfl) (List.forall_mem_cons.mpr ⟨⟨by decide, xIO, List.mem_of_getElem? (i := 0) rfl, kcl_L_13, by decide⟩, (fun w h => absurd h List.not_mem_nil)⟩) (by decide) (by decide) kcl_L_27 (List.mem_of_getElem? (i := 6) rfl) hce hcv hcE ?_
      refine lv_astore (lv' := [(4, .ref q9), (0, .ref (ad 0)), (1, .int x1), (2, .int x2), (3, .ref (ad 135))]) hx hb dL_approve_17 hl (by decide) rfl (fun ls hl => ?_)
      refine lv_iconst (v := 2) hx hb dL_approve_19 (by decide) ?_
      exact gM_iret C hr hP1 hS1 (by decide) (by decide) dL_approve_20 (Or.inr (Or.inr (Or.inl (⟨hpx, rfl⟩))))
    · refine g_catch C (pre := [(0, 10, 13, 13), (0, 10, 17, 27)]) (z := (0, 10, 21, 17)) (suf := []) htb (List.mem_of_getElem? (i := 2) rfl) (List.forall_mem_cons.mpr ⟨⟨by decide, xIO, List.mem_of_getElem? (i := 0) rfl, kcl_L_13, by decide⟩, (List.forall_mem_cons.mpr ⟨⟨by decide, xUO, List.mem_of_getElem? (i := 3) rfl, kcl_L_27, by decide⟩, (fun w h => absurd h List.not_mem_nil)⟩)⟩) (by decide) (by decide) kcl_L_17 (List.mem_of_getElem? (i := 5) rfl) hce hcv hcE ?_
      refine lv_astore (lv' := [(4, .ref q9), (0, .ref (ad 0)), (1, .int x1), (2, .int x2), (3, .ref (ad 135))]) hx hb dL_approve_21 hl (by decide) rfl (fun ls hl => ?_)
      refine lv_iconst (v := 3) hx hb dL_approve_23 (by decide) ?_
      exact gM_iret C hr hP1 hS1 (by decide) (by decide) dL_approve_24 (Or.inr (Or.inr (Or.inr (⟨hpx, rfl⟩))))
  · refine lv_i2l (v := v.toInt64) hx hb dL_approve_8 rfl ?_
    refine g_last C hP hS 135 1 (by decide) (fun _ _ => rfl) (x := v.toInt64) 0 (show (0 : Int32) = nI 0 from rfl) (by omega) (by decide) dL_approve_9 (fun H locs hP hS => ?_)
    refine lv_goto (tgt := 25) hx hb dL_approve_10 (by decide) ?_
    refine lv_iconst (v := 0) hx hb dL_approve_25 (by decide) ?_
    exact gM_iret C hr hP hS (by decide) (by decide) dL_approve_26 (Or.inl (⟨v, L1, hq, rfl, rfl⟩))
theorem cE_X3_withdraw (np : Nat) (x1 : Int32) (x2 : Int32) {I I' : MI} {L L' : ML} {E : String} (h : px_X3_withdraw np x1 x2 I L E I' L') : E = xIO ∨ E = xUO := by
  unfold px_X3_withdraw at h
  rcases h with ⟨-, h, -, -⟩ | ⟨-, -, h, -, -⟩ | ⟨-, -, -, -, h, -, -⟩
  · exact Or.inl h.symm
  · exact Or.inl h.symm
  · exact Or.inr (h.symm)
def pq_L_withdraw (np : Nat) (x1 : Int32) (x2 : Int32) (I : MI) (L : ML) : Int32 → MI → ML → Prop := fun r I' L' => (pq_X3_withdraw np x1 x2 I L I' L' ∧ 0 = r) ∨ (px_X3_withdraw np x1 x2 I L xIO I' L' ∧ 1 = r) ∨ (px_X3_withdraw np x1 x2 I L xUO I' L' ∧ 2 = r)
theorem fw_L_withdraw : gFW yL_withdraw cL_withdraw 4 [(0, 6, 9, 13), (0, 6, 12, 27)] 3 := ⟨kc_L_withdraw, kini_L, ⟨by decide +kernel, by decide +kernel⟩, by decide +kernel⟩
set_option maxRecDepth 100000 in
set_option maxHeartbeats 4000000 in
theorem ct_L_withdraw (l : Launch) (D : va_G) (cy : Nat → ClassId) (ad : Nat → Nat) (hJ : gJ ad) (hlf : l.stackTraces = false) (np : Nat) (x1 : Int32) (x2 : Int32) (I : MI) (L : ML) (hnp : I 0 3 = nI np) (hnp10 : np ≤ 10) : gW l D cy ad yL_withdraw cL_withdraw 4 [(0, 6, 9, 13), (0, 6, 12, 27)] (gR 0 3 18) [.ref (ad 0), .int x1, .int x2] I L (pq_L_withdraw np x1 x2 I L) := by
  refine gW_of hJ (by decide +kernel) kc_L_withdraw (Nat.le_of_ble_eq_true rfl) (fun p e s m below meth c A ls C hr htb hP hS hl => ?_)
  have hx := C.hx
  have hb := C.hb
  have hl : lv_has ls 4 [(0, .ref (ad 0)), (1, .int x1), (2, .int x2)] := hl
  refine lv_aload_n hx hb dL_withdraw_0 rfl (lv_at hl 0 rfl) ?_
  refine lv_iload_n hx hb dL_withdraw_1 rfl (lv_at hl 1 rfl) ?_
  refine lv_iload_n hx hb dL_withdraw_2 rfl (lv_at hl 2 rfl) ?_
  refine gC_callVv (As := [.int x1, .int x2]) (rest := []) C hP hS hl.1 (ct_X3_withdraw l D cy ad hJ hlf np x1 x2 I L hnp hnp10) fa_X3_withdraw kl_L_44 ki_X3_withdraw kse_X3_withdraw (by decide) (T := TX3) rfl rfl rfl (by decide) (Nat.le_of_ble_eq_true rfl) (by decide) ?_ dL_withdraw_3 rfl (fun I1 L1 H locs hq hP hS => ?_)
  · intro E ce q9 I1 L1 H1 locs1 hpx hP1 hS1 hce hcv hcE
    rcases cE_X3_withdraw np x1 x2 hpx with rfl | rfl
    · refine g_catch C (pre := []) (z := (0, 6, 9, 13)) (suf := [(0, 6, 12, 27)]) htb (List.mem_of_getElem? (i := 0) rfl) (fun w h => absurd h List.not_mem_nil) (by decide) (by decide) kcl_L_13 (List.mem_of_getElem? (i := 3) rfl) hce hcv hcE ?_
      refine lv_astore_n (lv' := [(3, .ref q9), (0, .ref (ad 0)), (1, .int x1), (2, .int x2)]) hx hb dL_withdraw_9 rfl hl (by decide) rfl (fun ls hl => ?_)
      refine lv_iconst (v := 1) hx hb dL_withdraw_10 (by decide) ?_
      exact gM_iret C hr hP1 hS1 (by decide) (by decide) dL_withdraw_11 (Or.inr (Or.inl (⟨hpx, rfl⟩)))
    · refine g_catch C (pre := [(0, 6, 9, 13)]) (z := (0, 6, 12, 27)) (suf := []) htb (List.mem_of_getElem? (i := 3) rfl) (List.forall_mem_cons.mpr ⟨⟨by decide, xIO, List.mem_of_getElem? (i := 0) rfl, kcl_L_13, by decide⟩, (fun w h => absurd h List.not_mem_nil)⟩) (by decide) (by decide) kcl_L_27 (List.mem_of_getElem? (i := 6) rfl) hce hcv hcE ?_
      refine lv_astore_n (lv' := [(3, .ref q9), (0, .ref (ad 0)), (1, .int x1), (2, .int x2)]) hx hb dL_withdraw_12 rfl hl (by decide) rfl (fun ls hl => ?_)
      refine lv_iconst (v := 2) hx hb dL_withdraw_13 (by decide) ?_
      exact gM_iret C hr hP1 hS1 (by decide) (by decide) dL_withdraw_14 (Or.inr (Or.inr (⟨hpx, rfl⟩)))
  · skip
    refine lv_goto (tgt := 15) hx hb dL_withdraw_6 (by decide) ?_
    refine lv_iconst (v := 0) hx hb dL_withdraw_15 (by decide) ?_
    exact gM_iret C hr hP hS (by decide) (by decide) dL_withdraw_16 (Or.inl (⟨hq, rfl⟩))
theorem cE_X3_reverse (np : Nat) (ne : Nat) (lc : Nat → Nat) (x1 : Int32) (x2 : Int32) {I I' : MI} {L L' : ML} {E : String} (h : px_X3_reverse np ne lc x1 x2 I L E I' L') : E = xIO ∨ E = xUO ∨ E = xIS := by
  unfold px_X3_reverse at h
  rcases h with ⟨-, h, -, -⟩ | ⟨-, -, h, -, -⟩ | ⟨-, -, -, h, -, -⟩ | ⟨-, -, -, -, -, h, -, -⟩ | ⟨-, -, -, -, -, -, -, -, h, -, -⟩ | ⟨-, -, -, -, -, -, -, h, -, -⟩ | ⟨-, -, -, -, -, -, -, -, -, h, -, -⟩ | ⟨-, -, -, -, -, -, h, -, -⟩ | ⟨-, -, -, -, h, -, -⟩
  · exact Or.inl h.symm
  · exact Or.inl h.symm
  · exact Or.inr (Or.inl h.symm)
  · exact Or.inr (Or.inr (h.symm))
  · exact Or.inr (Or.inr (h.symm))
  · exact Or.inr (Or.inr (h.symm))
  · exact Or.inr (Or.inr (h.symm))
  · exact Or.inr (Or.inr (h.symm))
  · exact Or.inr (Or.inl h.symm)
def pq_L_reverse (np : Nat) (ne : Nat) (lc : Nat → Nat) (x1 : Int32) (x2 : Int32) (I : MI) (L : ML) : Int32 → MI → ML → Prop := fun r I' L' => (∃ (v : Int32) (L1 : ML), pq_X3_reverse np ne lc x1 x2 I L v I' L1 ∧ sL L1 135 0 v.toInt64 = L' ∧ 0 = r) ∨ (px_X3_reverse np ne lc x1 x2 I L xIO I' L' ∧ 1 = r) ∨ (px_X3_reverse np ne lc x1 x2 I L xUO I' L' ∧ 2 = r) ∨ (px_X3_reverse np ne lc x1 x2 I L xIS I' L' ∧ 3 = r)
theorem fw_L_reverse : gFW yL_reverse cL_reverse 5 [(0, 10, 13, 13), (0, 10, 17, 27), (0, 10, 21, 17)] 4 := ⟨kc_L_reverse, kini_L, ⟨by decide +kernel, by decide +kernel⟩, by decide +kernel⟩
set_option maxRecDepth 100000 in
set_option maxHeartbeats 4000000 in
theorem ct_L_reverse (l : Launch) (D : va_G) (cy : Nat → ClassId) (ad : Nat → Nat) (hJ : gJ ad) (hlf : l.stackTraces = false) (np : Nat) (ne : Nat) (lc : Nat → Nat) (x1 : Int32) (x2 : Int32) (I : MI) (L : ML) (hnp : I 0 3 = nI np) (hnp10 : np ≤ 10) (hne : I 0 6 = nI ne) (hne40 : ne ≤ 40) (hlc : ∀ pp, pp < 10 → I (95 + 4 * pp) 2 = nI (lc pp)) (hlc4 : ∀ pp, pp < 10 → lc pp ≤ 4) (hlc1 : ∀ pp, pp < np → 1 ≤ lc pp) (hac : ∀ pp, pp < 10 → ∀ k, k < lc pp → vp_in (I (96 + 4 * pp) k) 8) : gW l D cy ad yL_reverse cL_reverse 5 [(0, 10, 13, 13), (0, 10, 17, 27), (0, 10, 21, 17)] (gR 0 5 30) [.ref (ad 0), .int x1, .int x2, .ref (ad 135)] I L (pq_L_reverse np ne lc x1 x2 I L) := by
  refine gW_of hJ (by decide +kernel) kc_L_reverse (Nat.le_of_ble_eq_true rfl) (fun p e s m below meth c A ls C hr htb hP hS hl => ?_)
  have hx := C.hx
  have hb := C.hb
  have hl : lv_has ls 5 [(0, .ref (ad 0)), (1, .int x1), (2, .int x2), (3, .ref (ad 135))] := hl
  refine lv_aload_n hx hb dL_reverse_0 rfl (lv_at hl 3 rfl) ?_
  refine lv_iconst (v := 0) hx hb dL_reverse_1 (by decide) ?_
  refine lv_aload_n hx hb dL_reverse_2 rfl (lv_at hl 0 rfl) ?_
  refine lv_iload_n hx hb dL_reverse_3 rfl (lv_at hl 1 rfl) ?_
  refine lv_iload_n hx hb dL_reverse_4 rfl (lv_at hl 2 rfl) ?_
  refine gC_callVi (As := [.int x1, .int x2]) (rest := [.int 0, .ref (ad 135)]) C hP hS hl.1 (ct_X3_reverse l D cy ad hJ hlf np ne lc x1 x2 I L hnp hnp10 hne hne40 hlc hlc4 hlc1 hac) fa_X3_reverse kl_L_47 ki_X3_reverse kse_X3_reverse (by decide) (T := TX3) rfl rfl rfl (by decide) (Nat.le_of_ble_eq_true rfl) (by decide) ?_ dL_reverse_5 rfl (fun v I1 L1 H locs hq hP hS => ?_)
  · intro E ce q9 I1 L1 H1 locs1 hpx hP1 hS1 hce hcv hcE
    rcases cE_X3_reverse np ne lc x1 x2 hpx with rfl | rfl | rfl
    · refine g_catch C (pre := []) (z := (0, 10, 13, 13)) (suf := [(0, 10, 17, 27), (0, 10, 21, 17)]) htb (List.mem_of_getElem? (i := 0) rfl) (fun w h => absurd h List.not_mem_nil) (by decide) (by decide) kcl_L_13 (List.mem_of_getElem? (i := 3) rfl) hce hcv hcE ?_
      refine lv_astore (lv' := [(4, .ref q9), (0, .ref (ad 0)), (1, .int x1), (2, .int x2), (3, .ref (ad 135))]) hx hb dL_reverse_13 hl (by decide) rfl (fun ls hl => ?_)
      refine lv_iconst (v := 1) hx hb dL_reverse_15 (by decide) ?_
      exact gM_iret C hr hP1 hS1 (by decide) (by decide) dL_reverse_16 (Or.inr (Or.inl (⟨hpx, rfl⟩)))
    · refine g_catch C (pre := [(0, 10, 13, 13)]) (z := (0, 10, 17, 27)) (suf := [(0, 10, 21, 17)]) htb (List.mem_of_getElem? (i := 3) rfl) (List.forall_mem_cons.mpr ⟨⟨by decide, xIO, List.mem_of_getElem? (i := 0) rfl, kcl_L_13, by decide⟩, (fun w h => absurd h List.not_mem_nil)⟩) (by decide) (by decide) kcl_L_27 (List.mem_of_getElem? (i := 6) rfl) hce hcv hcE ?_
      refine lv_astore (lv' := [(4, .ref q9), (0, .ref (ad 0)), (1, .int x1), (2, .int x2), (3, .ref (ad 135))]) hx hb dL_reverse_17 hl (by decide) rfl (fun ls hl => ?_)
      refine lv_iconst (v := 2) hx hb dL_reverse_19 (by decide) ?_
      exact gM_iret C hr hP1 hS1 (by decide) (by decide) dL_reverse_20 (Or.inr (Or.inr (Or.inl (⟨hpx, rfl⟩))))
    · refine g_catch C (pre := [(0, 10, 13, 13), (0, 10, 17, 27)]) (z := (0, 10, 21, 17)) (suf := []) htb (List.mem_of_getElem? (i := 2) rfl) (List.forall_mem_cons.mpr ⟨⟨by decide, xIO, List.mem_of_getElem? (i := 0) rfl, kcl_L_13, by decide⟩, (List.forall_mem_cons.mpr ⟨⟨by decide, xUO, List.mem_of_getElem? (i := 3) rfl, kcl_L_27, by decide⟩, (fun w h => absurd h List.not_mem_nil)⟩)⟩) (by decide) (by decide) kcl_L_17 (List.mem_of_getElem? (i := 5) rfl) hce hcv hcE ?_
      refine lv_astore (lv' := [(4, .ref q9), (0, .ref (ad 0)), (1, .int x1), (2, .int x2), (3, .ref (ad 135))]) hx hb dL_reverse_21 hl (by decide) rfl (fun ls hl => ?_)
      refine lv_iconst (v := 3) hx hb dL_reverse_23 (by decide) ?_
      exact gM_iret C hr hP1 hS1 (by decide) (by decide) dL_reverse_24 (Or.inr (Or.inr (Or.inr (⟨hpx, rfl⟩))))
  · refine lv_i2l (v := v.toInt64) hx hb dL_reverse_8 rfl ?_
    refine g_last C hP hS 135 1 (by decide) (fun _ _ => rfl) (x := v.toInt64) 0 (show (0 : Int32) = nI 0 from rfl) (by omega) (by decide) dL_reverse_9 (fun H locs hP hS => ?_)
    refine lv_goto (tgt := 25) hx hb dL_reverse_10 (by decide) ?_
    refine lv_iconst (v := 0) hx hb dL_reverse_25 (by decide) ?_
    exact gM_iret C hr hP hS (by decide) (by decide) dL_reverse_26 (Or.inl (⟨v, L1, hq, rfl, rfl⟩))
theorem cE_X3_tamper (x1 : Int32) (x2 : Int64) {I I' : MI} {L L' : ML} {E : String} (h : px_X3_tamper x1 x2 I L E I' L') : E = xIO ∨ E = xIA ∨ E = xIS := by
  unfold px_X3_tamper at h
  rcases h with ⟨-, h, -, -⟩ | ⟨-, -, h, -, -⟩ | ⟨-, -, -, -, h, -, -⟩ | ⟨-, -, -, -, -, h, -, -⟩ | ⟨-, -, -, h, -, -⟩
  · exact Or.inl h.symm
  · exact Or.inr (Or.inl h.symm)
  · exact Or.inr (Or.inr (h.symm))
  · exact Or.inr (Or.inr (h.symm))
  · exact Or.inr (Or.inl h.symm)
def pq_L_tamper (x1 : Int32) (x2 : Int64) (I : MI) (L : ML) : Int32 → MI → ML → Prop := fun r I' L' => (∃ (v : Int64) (L1 : ML), pq_X3_tamper x1 x2 I L v I' L1 ∧ sL L1 135 0 v = L' ∧ 0 = r) ∨ (px_X3_tamper x1 x2 I L xIO I' L' ∧ 1 = r) ∨ (px_X3_tamper x1 x2 I L xIA I' L' ∧ 2 = r) ∨ (px_X3_tamper x1 x2 I L xIS I' L' ∧ 3 = r)
theorem fw_L_tamper : gFW yL_tamper cL_tamper 6 [(0, 10, 13, 13), (0, 10, 17, 15), (0, 10, 21, 17)] 4 := ⟨kc_L_tamper, kini_L, ⟨by decide +kernel, by decide +kernel⟩, by decide +kernel⟩
set_option maxRecDepth 100000 in
set_option maxHeartbeats 4000000 in
theorem ct_L_tamper (l : Launch) (D : va_G) (cy : Nat → ClassId) (ad : Nat → Nat) (hJ : gJ ad) (hlf : l.stackTraces = false) (x1 : Int32) (x2 : Int64) (I : MI) (L : ML) : gW l D cy ad yL_tamper cL_tamper 6 [(0, 10, 13, 13), (0, 10, 17, 15), (0, 10, 21, 17)] (gR 0 2 12) [.ref (ad 0), .int x1, .long x2, .ref (ad 135)] I L (pq_L_tamper x1 x2 I L) := by
  refine gW_of hJ (by decide +kernel) kc_L_tamper (Nat.le_of_ble_eq_true rfl) (fun p e s m below meth c A ls C hr htb hP hS hl => ?_)
  have hx := C.hx
  have hb := C.hb
  have hl : lv_has ls 6 [(0, .ref (ad 0)), (1, .int x1), (2, .long x2), (4, .ref (ad 135))] := hl
  refine lv_aload hx hb dL_tamper_0 (lv_at hl 3 rfl) ?_
  refine lv_iconst (v := 0) hx hb dL_tamper_2 (by decide) ?_
  refine lv_aload_n hx hb dL_tamper_3 rfl (lv_at hl 0 rfl) ?_
  refine lv_iload_n hx hb dL_tamper_4 rfl (lv_at hl 1 rfl) ?_
  refine lv_lload_n hx hb dL_tamper_5 rfl (lv_at hl 2 rfl) ?_
  refine gC_callVl (As := [.int x1, .long x2]) (rest := [.int 0, .ref (ad 135)]) C hP hS hl.1 (ct_X3_tamper l D cy ad hJ hlf x1 x2 I L) fa_X3_tamper kl_L_50 ki_X3_tamper kse_X3_tamper (by decide) (T := TX3) rfl rfl rfl (by decide) (Nat.le_of_ble_eq_true rfl) (by decide) ?_ dL_tamper_6 rfl (fun v I1 L1 H locs hq hP hS => ?_)
  · intro E ce q9 I1 L1 H1 locs1 hpx hP1 hS1 hce hcv hcE
    rcases cE_X3_tamper x1 x2 hpx with rfl | rfl | rfl
    · refine g_catch C (pre := []) (z := (0, 10, 13, 13)) (suf := [(0, 10, 17, 15), (0, 10, 21, 17)]) htb (List.mem_of_getElem? (i := 0) rfl) (fun w h => absurd h List.not_mem_nil) (by decide) (by decide) kcl_L_13 (List.mem_of_getElem? (i := 3) rfl) hce hcv hcE ?_
      refine lv_astore (lv' := [(5, .ref q9), (0, .ref (ad 0)), (1, .int x1), (2, .long x2), (4, .ref (ad 135))]) hx hb dL_tamper_13 hl (by decide) rfl (fun ls hl => ?_)
      refine lv_iconst (v := 1) hx hb dL_tamper_15 (by decide) ?_
      exact gM_iret C hr hP1 hS1 (by decide) (by decide) dL_tamper_16 (Or.inr (Or.inl (⟨hpx, rfl⟩)))
    · refine g_catch C (pre := [(0, 10, 13, 13)]) (z := (0, 10, 17, 15)) (suf := [(0, 10, 21, 17)]) htb (List.mem_of_getElem? (i := 1) rfl) (List.forall_mem_cons.mpr ⟨⟨by decide, xIO, List.mem_of_getElem? (i := 0) rfl, kcl_L_13, by decide⟩, (fun w h => absurd h List.not_mem_nil)⟩) (by decide) (by decide) kcl_L_15 (List.mem_of_getElem? (i := 4) rfl) hce hcv hcE ?_
      refine lv_astore (lv' := [(5, .ref q9), (0, .ref (ad 0)), (1, .int x1), (2, .long x2), (4, .ref (ad 135))]) hx hb dL_tamper_17 hl (by decide) rfl (fun ls hl => ?_)
      refine lv_iconst (v := 2) hx hb dL_tamper_19 (by decide) ?_
      exact gM_iret C hr hP1 hS1 (by decide) (by decide) dL_tamper_20 (Or.inr (Or.inr (Or.inl (⟨hpx, rfl⟩))))
    · refine g_catch C (pre := [(0, 10, 13, 13), (0, 10, 17, 15)]) (z := (0, 10, 21, 17)) (suf := []) htb (List.mem_of_getElem? (i := 2) rfl) (List.forall_mem_cons.mpr ⟨⟨by decide, xIO, List.mem_of_getElem? (i := 0) rfl, kcl_L_13, by decide⟩, (List.forall_mem_cons.mpr ⟨⟨by decide, xIA, List.mem_of_getElem? (i := 1) rfl, kcl_L_15, by decide⟩, (fun w h => absurd h List.not_mem_nil)⟩)⟩) (by decide) (by decide) kcl_L_17 (List.mem_of_getElem? (i := 5) rfl) hce hcv hcE ?_
      refine lv_astore (lv' := [(5, .ref q9), (0, .ref (ad 0)), (1, .int x1), (2, .long x2), (4, .ref (ad 135))]) hx hb dL_tamper_21 hl (by decide) rfl (fun ls hl => ?_)
      refine lv_iconst (v := 3) hx hb dL_tamper_23 (by decide) ?_
      exact gM_iret C hr hP1 hS1 (by decide) (by decide) dL_tamper_24 (Or.inr (Or.inr (Or.inr (⟨hpx, rfl⟩))))
  · skip
    refine g_last C hP hS 135 1 (by decide) (fun _ _ => rfl) (x := v) 0 (show (0 : Int32) = nI 0 from rfl) (by omega) (by decide) dL_tamper_9 (fun H locs hP hS => ?_)
    refine lv_goto (tgt := 25) hx hb dL_tamper_10 (by decide) ?_
    refine lv_iconst (v := 0) hx hb dL_tamper_25 (by decide) ?_
    exact gM_iret C hr hP hS (by decide) (by decide) dL_tamper_26 (Or.inl (⟨v, L1, hq, rfl, rfl⟩))
theorem cE_X3_restore (ne : Nat) (x1 : Int32) {I I' : MI} {L L' : ML} {E : String} (h : px_X3_restore ne x1 I L E I' L') : E = xIO ∨ E = xUO := by
  unfold px_X3_restore at h
  rcases h with ⟨-, h, -, -⟩ | ⟨-, -, h, -, -⟩
  · exact Or.inl h.symm
  · exact Or.inr (h.symm)
def pq_L_restore (ne : Nat) (x1 : Int32) (I : MI) (L : ML) : Int32 → MI → ML → Prop := fun r I' L' => (∃ (v : Int32) (L1 : ML), pq_X3_restore ne x1 I L v I' L1 ∧ sL L1 135 0 v.toInt64 = L' ∧ 0 = r) ∨ (px_X3_restore ne x1 I L xIO I' L' ∧ 1 = r) ∨ (px_X3_restore ne x1 I L xUO I' L' ∧ 2 = r)
theorem fw_L_restore : gFW yL_restore cL_restore 4 [(0, 9, 12, 13), (0, 9, 15, 27)] 3 := ⟨kc_L_restore, kini_L, ⟨by decide +kernel, by decide +kernel⟩, by decide +kernel⟩
set_option maxRecDepth 100000 in
set_option maxHeartbeats 4000000 in
theorem ct_L_restore (l : Launch) (D : va_G) (cy : Nat → ClassId) (ad : Nat → Nat) (hJ : gJ ad) (hlf : l.stackTraces = false) (ne : Nat) (x1 : Int32) (I : MI) (L : ML) (hne : I 0 6 = nI ne) (hne40 : ne ≤ 40) : gW l D cy ad yL_restore cL_restore 4 [(0, 9, 12, 13), (0, 9, 15, 27)] (gR 0 2 12) [.ref (ad 0), .int x1, .ref (ad 135)] I L (pq_L_restore ne x1 I L) := by
  refine gW_of hJ (by decide +kernel) kc_L_restore (Nat.le_of_ble_eq_true rfl) (fun p e s m below meth c A ls C hr htb hP hS hl => ?_)
  have hx := C.hx
  have hb := C.hb
  have hl : lv_has ls 4 [(0, .ref (ad 0)), (1, .int x1), (2, .ref (ad 135))] := hl
  refine lv_aload_n hx hb dL_restore_0 rfl (lv_at hl 2 rfl) ?_
  refine lv_iconst (v := 0) hx hb dL_restore_1 (by decide) ?_
  refine lv_aload_n hx hb dL_restore_2 rfl (lv_at hl 0 rfl) ?_
  refine lv_iload_n hx hb dL_restore_3 rfl (lv_at hl 1 rfl) ?_
  refine gC_callVi (As := [.int x1]) (rest := [.int 0, .ref (ad 135)]) C hP hS hl.1 (ct_X3_restore l D cy ad hJ hlf ne x1 I L hne hne40) fa_X3_restore kl_L_54 ki_X3_restore kse_X3_restore (by decide) (T := TX3) rfl rfl rfl (by decide) (Nat.le_of_ble_eq_true rfl) (by decide) ?_ dL_restore_4 rfl (fun v I1 L1 H locs hq hP hS => ?_)
  · intro E ce q9 I1 L1 H1 locs1 hpx hP1 hS1 hce hcv hcE
    rcases cE_X3_restore ne x1 hpx with rfl | rfl
    · refine g_catch C (pre := []) (z := (0, 9, 12, 13)) (suf := [(0, 9, 15, 27)]) htb (List.mem_of_getElem? (i := 0) rfl) (fun w h => absurd h List.not_mem_nil) (by decide) (by decide) kcl_L_13 (List.mem_of_getElem? (i := 3) rfl) hce hcv hcE ?_
      refine lv_astore_n (lv' := [(3, .ref q9), (0, .ref (ad 0)), (1, .int x1), (2, .ref (ad 135))]) hx hb dL_restore_12 rfl hl (by decide) rfl (fun ls hl => ?_)
      refine lv_iconst (v := 1) hx hb dL_restore_13 (by decide) ?_
      exact gM_iret C hr hP1 hS1 (by decide) (by decide) dL_restore_14 (Or.inr (Or.inl (⟨hpx, rfl⟩)))
    · refine g_catch C (pre := [(0, 9, 12, 13)]) (z := (0, 9, 15, 27)) (suf := []) htb (List.mem_of_getElem? (i := 3) rfl) (List.forall_mem_cons.mpr ⟨⟨by decide, xIO, List.mem_of_getElem? (i := 0) rfl, kcl_L_13, by decide⟩, (fun w h => absurd h List.not_mem_nil)⟩) (by decide) (by decide) kcl_L_27 (List.mem_of_getElem? (i := 6) rfl) hce hcv hcE ?_
      refine lv_astore_n (lv' := [(3, .ref q9), (0, .ref (ad 0)), (1, .int x1), (2, .ref (ad 135))]) hx hb dL_restore_15 rfl hl (by decide) rfl (fun ls hl => ?_)
      refine lv_iconst (v := 2) hx hb dL_restore_16 (by decide) ?_
      exact gM_iret C hr hP1 hS1 (by decide) (by decide) dL_restore_17 (Or.inr (Or.inr (⟨hpx, rfl⟩)))
  · refine lv_i2l (v := v.toInt64) hx hb dL_restore_7 rfl ?_
    refine g_last C hP hS 135 1 (by decide) (fun _ _ => rfl) (x := v.toInt64) 0 (show (0 : Int32) = nI 0 from rfl) (by omega) (by decide) dL_restore_8 (fun H locs hP hS => ?_)
    refine lv_goto (tgt := 18) hx hb dL_restore_9 (by decide) ?_
    refine lv_iconst (v := 0) hx hb dL_restore_18 (by decide) ?_
    exact gM_iret C hr hP hS (by decide) (by decide) dL_restore_19 (Or.inl (⟨v, L1, hq, rfl, rfl⟩))
theorem cE_X3_balance (x1 : Int32) {I I' : MI} {L L' : ML} {E : String} (h : px_X3_balance x1 I L E I' L') : E = xIO := by
  unfold px_X3_balance at h
  rcases h with ⟨-, h, -, -⟩
  · exact h.symm
def pq_L_balance (x1 : Int32) (I : MI) (L : ML) : Int32 → MI → ML → Prop := fun r I' L' => (∃ (v : Int64) (L1 : ML), pq_X3_balance x1 I L v I' L1 ∧ sL L1 135 0 v = L' ∧ 0 = r) ∨ (px_X3_balance x1 I L xIO I' L' ∧ 1 = r)
theorem fw_L_balance : gFW yL_balance cL_balance 4 [(0, 8, 11, 13)] 3 := ⟨kc_L_balance, kini_L, ⟨by decide +kernel, by decide +kernel⟩, by decide +kernel⟩
set_option maxRecDepth 100000 in
set_option maxHeartbeats 4000000 in
theorem ct_L_balance (l : Launch) (D : va_G) (cy : Nat → ClassId) (ad : Nat → Nat) (hJ : gJ ad) (hlf : l.stackTraces = false) (x1 : Int32) (I : MI) (L : ML) : gW l D cy ad yL_balance cL_balance 4 [(0, 8, 11, 13)] (gR 0 1 6) [.ref (ad 0), .int x1, .ref (ad 135)] I L (pq_L_balance x1 I L) := by
  refine gW_of hJ (by decide +kernel) kc_L_balance (Nat.le_of_ble_eq_true rfl) (fun p e s m below meth c A ls C hr htb hP hS hl => ?_)
  have hx := C.hx
  have hb := C.hb
  have hl : lv_has ls 4 [(0, .ref (ad 0)), (1, .int x1), (2, .ref (ad 135))] := hl
  refine lv_aload_n hx hb dL_balance_0 rfl (lv_at hl 2 rfl) ?_
  refine lv_iconst (v := 0) hx hb dL_balance_1 (by decide) ?_
  refine lv_aload_n hx hb dL_balance_2 rfl (lv_at hl 0 rfl) ?_
  refine lv_iload_n hx hb dL_balance_3 rfl (lv_at hl 1 rfl) ?_
  refine gC_callVl (As := [.int x1]) (rest := [.int 0, .ref (ad 135)]) C hP hS hl.1 (ct_X3_balance l D cy ad hJ hlf x1 I L) fa_X3_balance kl_L_58 ki_X3_balance kse_X3_balance (by decide) (T := TX3) rfl rfl rfl (by decide) (Nat.le_of_ble_eq_true rfl) (by decide) ?_ dL_balance_4 rfl (fun v I1 L1 H locs hq hP hS => ?_)
  · intro E ce q9 I1 L1 H1 locs1 hpx hP1 hS1 hce hcv hcE
    rcases cE_X3_balance x1 hpx with rfl
    · refine g_catch C (pre := []) (z := (0, 8, 11, 13)) (suf := []) htb (List.mem_of_getElem? (i := 0) rfl) (fun w h => absurd h List.not_mem_nil) (by decide) (by decide) kcl_L_13 (List.mem_of_getElem? (i := 3) rfl) hce hcv hcE ?_
      refine lv_astore_n (lv' := [(3, .ref q9), (0, .ref (ad 0)), (1, .int x1), (2, .ref (ad 135))]) hx hb dL_balance_11 rfl hl (by decide) rfl (fun ls hl => ?_)
      refine lv_iconst (v := 1) hx hb dL_balance_12 (by decide) ?_
      exact gM_iret C hr hP1 hS1 (by decide) (by decide) dL_balance_13 (Or.inr (⟨hpx, rfl⟩))
  · skip
    refine g_last C hP hS 135 1 (by decide) (fun _ _ => rfl) (x := v) 0 (show (0 : Int32) = nI 0 from rfl) (by omega) (by decide) dL_balance_7 (fun H locs hP hS => ?_)
    refine lv_goto (tgt := 14) hx hb dL_balance_8 (by decide) ?_
    refine lv_iconst (v := 0) hx hb dL_balance_14 (by decide) ?_
    exact gM_iret C hr hP hS (by decide) (by decide) dL_balance_15 (Or.inl (⟨v, L1, hq, rfl, rfl⟩))
theorem cE_X3_balanceAt (ne : Nat) (x1 : Int32) (x2 : Int32) {I I' : MI} {L L' : ML} {E : String} (h : px_X3_balanceAt ne x1 x2 I L E I' L') : E = xIO := by
  unfold px_X3_balanceAt at h
  rcases h with ⟨-, h, -, -⟩ | ⟨-, -, h, -, -⟩ | ⟨-, -, -, h, -, -⟩
  · exact h.symm
  · exact h.symm
  · exact h.symm
def pq_L_balanceAt (ne : Nat) (x1 : Int32) (x2 : Int32) (I : MI) (L : ML) : Int32 → MI → ML → Prop := fun r I' L' => (∃ (v : Int64) (L1 : ML), pq_X3_balanceAt ne x1 x2 I L v I' L1 ∧ sL L1 135 0 v = L' ∧ 0 = r) ∨ (px_X3_balanceAt ne x1 x2 I L xIO I' L' ∧ 1 = r)
theorem fw_L_balanceAt : gFW yL_balanceAt cL_balanceAt 5 [(0, 9, 12, 13)] 4 := ⟨kc_L_balanceAt, kini_L, ⟨by decide +kernel, by decide +kernel⟩, by decide +kernel⟩
set_option maxRecDepth 100000 in
set_option maxHeartbeats 4000000 in
theorem ct_L_balanceAt (l : Launch) (D : va_G) (cy : Nat → ClassId) (ad : Nat → Nat) (hJ : gJ ad) (hlf : l.stackTraces = false) (ne : Nat) (x1 : Int32) (x2 : Int32) (I : MI) (L : ML) (hne : I 0 6 = nI ne) (hne40 : ne ≤ 40) : gW l D cy ad yL_balanceAt cL_balanceAt 5 [(0, 9, 12, 13)] (gR 0 2 12) [.ref (ad 0), .int x1, .int x2, .ref (ad 135)] I L (pq_L_balanceAt ne x1 x2 I L) := by
  refine gW_of hJ (by decide +kernel) kc_L_balanceAt (Nat.le_of_ble_eq_true rfl) (fun p e s m below meth c A ls C hr htb hP hS hl => ?_)
  have hx := C.hx
  have hb := C.hb
  have hl : lv_has ls 5 [(0, .ref (ad 0)), (1, .int x1), (2, .int x2), (3, .ref (ad 135))] := hl
  refine lv_aload_n hx hb dL_balanceAt_0 rfl (lv_at hl 3 rfl) ?_
  refine lv_iconst (v := 0) hx hb dL_balanceAt_1 (by decide) ?_
  refine lv_aload_n hx hb dL_balanceAt_2 rfl (lv_at hl 0 rfl) ?_
  refine lv_iload_n hx hb dL_balanceAt_3 rfl (lv_at hl 1 rfl) ?_
  refine lv_iload_n hx hb dL_balanceAt_4 rfl (lv_at hl 2 rfl) ?_
  refine gC_callVl (As := [.int x1, .int x2]) (rest := [.int 0, .ref (ad 135)]) C hP hS hl.1 (ct_X3_balanceAt l D cy ad hJ hlf ne x1 x2 I L hne hne40) fa_X3_balanceAt kl_L_62 ki_X3_balanceAt kse_X3_balanceAt (by decide) (T := TX3) rfl rfl rfl (by decide) (Nat.le_of_ble_eq_true rfl) (by decide) ?_ dL_balanceAt_5 rfl (fun v I1 L1 H locs hq hP hS => ?_)
  · intro E ce q9 I1 L1 H1 locs1 hpx hP1 hS1 hce hcv hcE
    rcases cE_X3_balanceAt ne x1 x2 hpx with rfl
    · refine g_catch C (pre := []) (z := (0, 9, 12, 13)) (suf := []) htb (List.mem_of_getElem? (i := 0) rfl) (fun w h => absurd h List.not_mem_nil) (by decide) (by decide) kcl_L_13 (List.mem_of_getElem? (i := 3) rfl) hce hcv hcE ?_
      refine lv_astore (lv' := [(4, .ref q9), (0, .ref (ad 0)), (1, .int x1), (2, .int x2), (3, .ref (ad 135))]) hx hb dL_balanceAt_12 hl (by decide) rfl (fun ls hl => ?_)
      refine lv_iconst (v := 1) hx hb dL_balanceAt_14 (by decide) ?_
      exact gM_iret C hr hP1 hS1 (by decide) (by decide) dL_balanceAt_15 (Or.inr (⟨hpx, rfl⟩))
  · skip
    refine g_last C hP hS 135 1 (by decide) (fun _ _ => rfl) (x := v) 0 (show (0 : Int32) = nI 0 from rfl) (by omega) (by decide) dL_balanceAt_8 (fun H locs hP hS => ?_)
    refine lv_goto (tgt := 16) hx hb dL_balanceAt_9 (by decide) ?_
    refine lv_iconst (v := 0) hx hb dL_balanceAt_16 (by decide) ?_
    exact gM_iret C hr hP hS (by decide) (by decide) dL_balanceAt_17 (Or.inl (⟨v, L1, hq, rfl, rfl⟩))
theorem cE_X3_entry (ne : Nat) (x1 : Int32) (x2 : Int32) {I I' : MI} {L L' : ML} {E : String} (h : px_X3_entry ne x1 x2 I L E I' L') : E = xIO := by
  unfold px_X3_entry at h
  rcases h with ⟨-, h, -, -⟩ | ⟨-, -, -, -, -, -, h, -, -⟩
  · exact h.symm
  · exact h.symm
def pq_L_entry (ne : Nat) (x1 : Int32) (x2 : Int32) (I : MI) (L : ML) : Int32 → MI → ML → Prop := fun r I' L' => (∃ (v : Int32) (L1 : ML), pq_X3_entry ne x1 x2 I L v I' L1 ∧ sL L1 135 0 v.toInt64 = L' ∧ 0 = r) ∨ (px_X3_entry ne x1 x2 I L xIO I' L' ∧ 1 = r)
theorem fw_L_entry : gFW yL_entry cL_entry 5 [(0, 10, 13, 13)] 4 := ⟨kc_L_entry, kini_L, ⟨by decide +kernel, by decide +kernel⟩, by decide +kernel⟩
set_option maxRecDepth 100000 in
set_option maxHeartbeats 4000000 in
theorem ct_L_entry (l : Launch) (D : va_G) (cy : Nat → ClassId) (ad : Nat → Nat) (hJ : gJ ad) (hlf : l.stackTraces = false) (ne : Nat) (x1 : Int32) (x2 : Int32) (I : MI) (L : ML) (hne : I 0 6 = nI ne) (hne40 : ne ≤ 40) : gW l D cy ad yL_entry cL_entry 5 [(0, 10, 13, 13)] (gR 0 2 12) [.ref (ad 0), .int x1, .int x2, .ref (ad 135)] I L (pq_L_entry ne x1 x2 I L) := by
  refine gW_of hJ (by decide +kernel) kc_L_entry (Nat.le_of_ble_eq_true rfl) (fun p e s m below meth c A ls C hr htb hP hS hl => ?_)
  have hx := C.hx
  have hb := C.hb
  have hl : lv_has ls 5 [(0, .ref (ad 0)), (1, .int x1), (2, .int x2), (3, .ref (ad 135))] := hl
  refine lv_aload_n hx hb dL_entry_0 rfl (lv_at hl 3 rfl) ?_
  refine lv_iconst (v := 0) hx hb dL_entry_1 (by decide) ?_
  refine lv_aload_n hx hb dL_entry_2 rfl (lv_at hl 0 rfl) ?_
  refine lv_iload_n hx hb dL_entry_3 rfl (lv_at hl 1 rfl) ?_
  refine lv_iload_n hx hb dL_entry_4 rfl (lv_at hl 2 rfl) ?_
  refine gC_callVi (As := [.int x1, .int x2]) (rest := [.int 0, .ref (ad 135)]) C hP hS hl.1 (ct_X3_entry l D cy ad hJ hlf ne x1 x2 I L hne hne40) fa_X3_entry kl_L_66 ki_X3_entry kse_X3_entry (by decide) (T := TX3) rfl rfl rfl (by decide) (Nat.le_of_ble_eq_true rfl) (by decide) ?_ dL_entry_5 rfl (fun v I1 L1 H locs hq hP hS => ?_)
  · intro E ce q9 I1 L1 H1 locs1 hpx hP1 hS1 hce hcv hcE
    rcases cE_X3_entry ne x1 x2 hpx with rfl
    · refine g_catch C (pre := []) (z := (0, 10, 13, 13)) (suf := []) htb (List.mem_of_getElem? (i := 0) rfl) (fun w h => absurd h List.not_mem_nil) (by decide) (by decide) kcl_L_13 (List.mem_of_getElem? (i := 3) rfl) hce hcv hcE ?_
      refine lv_astore (lv' := [(4, .ref q9), (0, .ref (ad 0)), (1, .int x1), (2, .int x2), (3, .ref (ad 135))]) hx hb dL_entry_13 hl (by decide) rfl (fun ls hl => ?_)
      refine lv_iconst (v := 1) hx hb dL_entry_15 (by decide) ?_
      exact gM_iret C hr hP1 hS1 (by decide) (by decide) dL_entry_16 (Or.inr (⟨hpx, rfl⟩))
  · refine lv_i2l (v := v.toInt64) hx hb dL_entry_8 rfl ?_
    refine g_last C hP hS 135 1 (by decide) (fun _ _ => rfl) (x := v.toInt64) 0 (show (0 : Int32) = nI 0 from rfl) (by omega) (by decide) dL_entry_9 (fun H locs hP hS => ?_)
    refine lv_goto (tgt := 17) hx hb dL_entry_10 (by decide) ?_
    refine lv_iconst (v := 0) hx hb dL_entry_17 (by decide) ?_
    exact gM_iret C hr hP hS (by decide) (by decide) dL_entry_18 (Or.inl (⟨v, L1, hq, rfl, rfl⟩))
theorem cE_X3_amount (ne : Nat) (x1 : Int32) {I I' : MI} {L L' : ML} {E : String} (h : px_X3_amount ne x1 I L E I' L') : E = xIO := by
  unfold px_X3_amount at h
  rcases h with ⟨-, h, -, -⟩
  · exact h.symm
def pq_L_amount (ne : Nat) (x1 : Int32) (I : MI) (L : ML) : Int32 → MI → ML → Prop := fun r I' L' => (∃ (v : Int64) (L1 : ML), pq_X3_amount ne x1 I L v I' L1 ∧ sL L1 135 0 v = L' ∧ 0 = r) ∨ (px_X3_amount ne x1 I L xIO I' L' ∧ 1 = r)
theorem fw_L_amount : gFW yL_amount cL_amount 4 [(0, 8, 11, 13)] 3 := ⟨kc_L_amount, kini_L, ⟨by decide +kernel, by decide +kernel⟩, by decide +kernel⟩
set_option maxRecDepth 100000 in
set_option maxHeartbeats 4000000 in
theorem ct_L_amount (l : Launch) (D : va_G) (cy : Nat → ClassId) (ad : Nat → Nat) (hJ : gJ ad) (hlf : l.stackTraces = false) (ne : Nat) (x1 : Int32) (I : MI) (L : ML) (hne : I 0 6 = nI ne) (hne40 : ne ≤ 40) : gW l D cy ad yL_amount cL_amount 4 [(0, 8, 11, 13)] (gR 0 1 6) [.ref (ad 0), .int x1, .ref (ad 135)] I L (pq_L_amount ne x1 I L) := by
  refine gW_of hJ (by decide +kernel) kc_L_amount (Nat.le_of_ble_eq_true rfl) (fun p e s m below meth c A ls C hr htb hP hS hl => ?_)
  have hx := C.hx
  have hb := C.hb
  have hl : lv_has ls 4 [(0, .ref (ad 0)), (1, .int x1), (2, .ref (ad 135))] := hl
  refine lv_aload_n hx hb dL_amount_0 rfl (lv_at hl 2 rfl) ?_
  refine lv_iconst (v := 0) hx hb dL_amount_1 (by decide) ?_
  refine lv_aload_n hx hb dL_amount_2 rfl (lv_at hl 0 rfl) ?_
  refine lv_iload_n hx hb dL_amount_3 rfl (lv_at hl 1 rfl) ?_
  refine gC_callVl (As := [.int x1]) (rest := [.int 0, .ref (ad 135)]) C hP hS hl.1 (ct_X3_amount l D cy ad hJ hlf ne x1 I L hne hne40) fa_X3_amount kl_L_69 ki_X3_amount kse_X3_amount (by decide) (T := TX3) rfl rfl rfl (by decide) (Nat.le_of_ble_eq_true rfl) (by decide) ?_ dL_amount_4 rfl (fun v I1 L1 H locs hq hP hS => ?_)
  · intro E ce q9 I1 L1 H1 locs1 hpx hP1 hS1 hce hcv hcE
    rcases cE_X3_amount ne x1 hpx with rfl
    · refine g_catch C (pre := []) (z := (0, 8, 11, 13)) (suf := []) htb (List.mem_of_getElem? (i := 0) rfl) (fun w h => absurd h List.not_mem_nil) (by decide) (by decide) kcl_L_13 (List.mem_of_getElem? (i := 3) rfl) hce hcv hcE ?_
      refine lv_astore_n (lv' := [(3, .ref q9), (0, .ref (ad 0)), (1, .int x1), (2, .ref (ad 135))]) hx hb dL_amount_11 rfl hl (by decide) rfl (fun ls hl => ?_)
      refine lv_iconst (v := 1) hx hb dL_amount_12 (by decide) ?_
      exact gM_iret C hr hP1 hS1 (by decide) (by decide) dL_amount_13 (Or.inr (⟨hpx, rfl⟩))
  · skip
    refine g_last C hP hS 135 1 (by decide) (fun _ _ => rfl) (x := v) 0 (show (0 : Int32) = nI 0 from rfl) (by omega) (by decide) dL_amount_7 (fun H locs hP hS => ?_)
    refine lv_goto (tgt := 14) hx hb dL_amount_8 (by decide) ?_
    refine lv_iconst (v := 0) hx hb dL_amount_14 (by decide) ?_
    exact gM_iret C hr hP hS (by decide) (by decide) dL_amount_15 (Or.inl (⟨v, L1, hq, rfl, rfl⟩))
theorem cE_X3_requested (x1 : Int32) {I I' : MI} {L L' : ML} {E : String} (h : px_X3_requested x1 I L E I' L') : E = xIO := by
  unfold px_X3_requested at h
  rcases h with ⟨-, h, -, -⟩ | ⟨-, -, h, -, -⟩
  · exact h.symm
  · exact h.symm
def pq_L_requested (x1 : Int32) (I : MI) (L : ML) : Int32 → MI → ML → Prop := fun r I' L' => (∃ (v : Int32) (L1 : ML), pq_X3_requested x1 I L v I' L1 ∧ sL L1 135 0 v.toInt64 = L' ∧ 0 = r) ∨ (px_X3_requested x1 I L xIO I' L' ∧ 1 = r)
theorem fw_L_requested : gFW yL_requested cL_requested 4 [(0, 9, 12, 13)] 3 := ⟨kc_L_requested, kini_L, ⟨by decide +kernel, by decide +kernel⟩, by decide +kernel⟩
set_option maxRecDepth 100000 in
set_option maxHeartbeats 4000000 in
theorem ct_L_requested (l : Launch) (D : va_G) (cy : Nat → ClassId) (ad : Nat → Nat) (hJ : gJ ad) (hlf : l.stackTraces = false) (x1 : Int32) (I : MI) (L : ML) : gW l D cy ad yL_requested cL_requested 4 [(0, 9, 12, 13)] (gR 0 1 6) [.ref (ad 0), .int x1, .ref (ad 135)] I L (pq_L_requested x1 I L) := by
  refine gW_of hJ (by decide +kernel) kc_L_requested (Nat.le_of_ble_eq_true rfl) (fun p e s m below meth c A ls C hr htb hP hS hl => ?_)
  have hx := C.hx
  have hb := C.hb
  have hl : lv_has ls 4 [(0, .ref (ad 0)), (1, .int x1), (2, .ref (ad 135))] := hl
  refine lv_aload_n hx hb dL_requested_0 rfl (lv_at hl 2 rfl) ?_
  refine lv_iconst (v := 0) hx hb dL_requested_1 (by decide) ?_
  refine lv_aload_n hx hb dL_requested_2 rfl (lv_at hl 0 rfl) ?_
  refine lv_iload_n hx hb dL_requested_3 rfl (lv_at hl 1 rfl) ?_
  refine gC_callVi (As := [.int x1]) (rest := [.int 0, .ref (ad 135)]) C hP hS hl.1 (ct_X3_requested l D cy ad hJ hlf x1 I L) fa_X3_requested kl_L_72 ki_X3_requested kse_X3_requested (by decide) (T := TX3) rfl rfl rfl (by decide) (Nat.le_of_ble_eq_true rfl) (by decide) ?_ dL_requested_4 rfl (fun v I1 L1 H locs hq hP hS => ?_)
  · intro E ce q9 I1 L1 H1 locs1 hpx hP1 hS1 hce hcv hcE
    rcases cE_X3_requested x1 hpx with rfl
    · refine g_catch C (pre := []) (z := (0, 9, 12, 13)) (suf := []) htb (List.mem_of_getElem? (i := 0) rfl) (fun w h => absurd h List.not_mem_nil) (by decide) (by decide) kcl_L_13 (List.mem_of_getElem? (i := 3) rfl) hce hcv hcE ?_
      refine lv_astore_n (lv' := [(3, .ref q9), (0, .ref (ad 0)), (1, .int x1), (2, .ref (ad 135))]) hx hb dL_requested_12 rfl hl (by decide) rfl (fun ls hl => ?_)
      refine lv_iconst (v := 1) hx hb dL_requested_13 (by decide) ?_
      exact gM_iret C hr hP1 hS1 (by decide) (by decide) dL_requested_14 (Or.inr (⟨hpx, rfl⟩))
  · refine lv_i2l (v := v.toInt64) hx hb dL_requested_7 rfl ?_
    refine g_last C hP hS 135 1 (by decide) (fun _ _ => rfl) (x := v.toInt64) 0 (show (0 : Int32) = nI 0 from rfl) (by omega) (by decide) dL_requested_8 (fun H locs hP hS => ?_)
    refine lv_goto (tgt := 15) hx hb dL_requested_9 (by decide) ?_
    refine lv_iconst (v := 0) hx hb dL_requested_15 (by decide) ?_
    exact gM_iret C hr hP hS (by decide) (by decide) dL_requested_16 (Or.inl (⟨v, L1, hq, rfl, rfl⟩))
