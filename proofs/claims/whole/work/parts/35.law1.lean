section LW
variable {p : Program} {l : Launch} {e : Env} {s : State} {m : MethodId} {b : Nat} {below : List Frame} {meth : Method} {c : Code} {H : Heap} {locs : List Loc} {cells slots : Nat} {Q : State → Prop}
variable {D : va_G} {cy : Nat → ClassId} {ad : Nat → Nat} {A : Nat → Prop} {I : MI} {L : ML} {ls : Array Slot} {Ln : Nat} {xs : Nat → Int32} {np ne : Nat} {lc : Nat → Nat} {iv : Int32}
set_option maxRecDepth 100000 in
set_option maxHeartbeats 8000000 in
theorem law_draw (C : gC p s m #[Value.ref b] meth c cL_law 8 RL D cy ad A) (hJ : gJ ad) (hlf : l.stackTraces = false) (hX : va_X b Ln xs s s.heap) (hbl : b < s.heap.size) (hbA : ¬ A b) (h : Inv np ne lc I L) (hP : gP D cy ad I L H) (hS : va_S A s.heap H locs) (hj1 : vp_in (iv + 1) Ln) (hj2 : vp_in (iv + 2) Ln) (hj3 : vp_in (iv + 3) Ln) (hj4 : vp_in (iv + 4) Ln) (hl : lv_has ls 8 [(0, .ref b), (1, .ref (ad 0)), (2, .ref (ad 136)), (3, .ref (ad 135)), (4, .int iv)]) (hcc : cells + 5 ≤ 620044) (hss : slots + 30 ≤ 7235973)
    (kk : ∀ (np ne : Nat) (lc : Nat → Nat) (I : MI) (L : ML) (H : Heap) (locs : List Loc) (ls : Array Slot), Inv np ne lc I L → gP D cy ad I L H → va_S A s.heap H locs → lv_has ls 8 [(0, .ref b), (1, .ref (ad 0)), (2, .ref (ad 136)), (3, .ref (ad 135)), (4, .int iv)] → W p l e room_1 s m #[Value.ref b] below meth c H locs (cells + 5) (slots + 30) Q (F0 m 1365 ls [])) : W p l e room_1 s m #[Value.ref b] below meth c H locs cells slots Q (F0 m 128 ls []) := by
  have hx := C.hx
  have hb := C.hb
  refine lv_aload_n hx hb dL_law_128 rfl (lv_at hl 1 rfl) ?_
  refine lv_aload_n hx hb dL_law_129 rfl (lv_at hl 0 rfl) ?_
  refine lv_iload hx hb dL_law_130 (lv_at hl 4 rfl) ?_
  refine lv_iconst (v := 1) hx hb dL_law_132 (by decide) ?_
  refine lv_iadd hx hb dL_law_133 ?_
  refine va_sld hx hb hX hbl hbA hS hj1 dL_law_134 ?_
  refine lv_aload_n hx hb dL_law_135 rfl (lv_at hl 0 rfl) ?_
  refine lv_iload hx hb dL_law_136 (lv_at hl 4 rfl) ?_
  refine lv_iconst (v := 2) hx hb dL_law_138 (by decide) ?_
  refine lv_iadd hx hb dL_law_139 ?_
  refine va_sld hx hb hX hbl hbA hS hj2 dL_law_140 ?_
  refine lv_aload_n hx hb dL_law_141 rfl (lv_at hl 3 rfl) ?_
  refine gW_call (As := [.ref (ad 0), .int (xs (iv + 1).toNatClampNeg), .int (xs (iv + 2).toNatClampNeg), .ref (ad 135)]) (rest := []) C hP hS hl.1 (ct_L_draw l D cy ad hJ hlf np lc (xs (iv + 1).toNatClampNeg) (xs (iv + 2).toNatClampNeg) I L h.hnp h.np10 h.hlc h.lc4 h.lc0) fw_L_draw kl_L_79 kst_L_draw rfl ⟨Nat.le_of_ble_eq_true rfl, Nat.le_of_ble_eq_true rfl⟩ (by decide) ⟨by show cells + 3 ≤ 620044; omega, by show slots + 18 ≤ 7235973; omega⟩ dL_law_142 rfl (fun k9 I1 L1 H locs hq hP hS => ?_)
  obtain ⟨hR, hO⟩ := op_draw h hq
  have mf := iMF.of h hR
  refine W.widen (k := cells + 5) (n := slots + 30) (by show cells + 3 ≤ cells + 5; omega) (by show slots + 18 ≤ slots + 30; omega) ?_
  refine lv_istore (lv' := [(5, .int k9), (0, .ref b), (1, .ref (ad 0)), (2, .ref (ad 136)), (3, .ref (ad 135)), (4, .int iv)]) hx hb dL_law_145 hl (by decide) rfl (fun ls hl => ?_)
  refine lv_aload_n hx hb dL_law_147 rfl (lv_at hl 3 rfl) ?_
  refine lv_aload_n hx hb dL_law_148 rfl (lv_at hl 1 rfl) ?_
  refine lv_iload hx hb dL_law_149 (lv_at hl 5 rfl) ?_
  refine lv_iconst (v := 1) hx hb dL_law_151 (by decide) ?_
  refine lv_iadd hx hb dL_law_152 ?_
  refine va_sld hx hb hX hbl hbA hS hj1 dL_law_153 ?_
  refine lv_aload_n hx hb dL_law_154 rfl (lv_at hl 1 rfl) ?_
  refine lv_iload hx hb dL_law_155 (lv_at hl 5 rfl) ?_
  refine lv_iconst (v := 2) hx hb dL_law_157 (by decide) ?_
  refine lv_iadd hx hb dL_law_158 ?_
  refine va_sld hx hb hX hbl hbA hS hj2 dL_law_159 ?_
  refine gM_callVi (As := [.int (xs (iv + 1).toNatClampNeg), .int (xs (iv + 2).toNatClampNeg)]) (rest := []) C hP hS hl.1 (ct_X4_draw l D cy ad hJ np lc (xs (iv + 1).toNatClampNeg) (xs (iv + 2).toNatClampNeg) I1 L1 mf.1 h.np10 mf.2.2.1 h.lc4) fa_X4_draw kl_L_84 ki_X4_draw kse_X4_draw (by decide) (T := TX4) rfl rfl rfl ⟨Nat.le_of_ble_eq_true rfl, Nat.le_of_ble_eq_true rfl⟩ (Nat.le_of_ble_eq_true rfl) ⟨by show cells + 5 + 0 ≤ 620044; omega, by show slots + 30 + 0 ≤ 7235973; omega⟩ dL_law_160 rfl (fun b9 I2 L2 H locs hm hP hS => ?_)
  obtain ⟨e0, eP, np2, ne2, lc2, h2⟩ := hO b9 I2 L2 hm
  refine W.widen (k := cells + 5) (n := slots + 30) (by show cells + 5 + 0 ≤ cells + 5; omega) (by show slots + 30 + 0 ≤ slots + 30; omega) ?_
  refine lv_istore (lv' := [(6, .int b9), (5, .int k9), (0, .ref b), (1, .ref (ad 0)), (2, .ref (ad 136)), (3, .ref (ad 135)), (4, .int iv)]) hx hb dL_law_163 hl (by decide) rfl (fun ls hl => ?_)
  refine lv_aload_n hx hb dL_law_165 rfl (lv_at hl 4 rfl) ?_
  refine gM_callVi (As := []) (rest := []) C hP hS hl.1 (ct_X4_thrown l D cy ad hJ I2 L2) fa_X4_thrown kl_L_85 ki_X4_thrown kse_X4_thrown (by decide) (T := TX4) rfl rfl rfl ⟨Nat.le_of_ble_eq_true rfl, Nat.le_of_ble_eq_true rfl⟩ (Nat.le_of_ble_eq_true rfl) ⟨by show cells + 5 + 0 ≤ 620044; omega, by show slots + 30 + 0 ≤ 7235973; omega⟩ dL_law_166 rfl (fun t9 I3 L3 H locs ht hP hS => ?_)
  obtain ⟨rfl, rfl, rfl⟩ := ht
  refine W.widen (k := cells + 5) (n := slots + 30) (by show cells + 5 + 0 ≤ cells + 5; omega) (by show slots + 30 + 0 ≤ slots + 30; omega) ?_
  refine lv_iload hx hb dL_law_169 (lv_at hl 1 rfl) ?_
  refine lv_icmp_eq (tgt := 176) hx hb dL_law_171 (by decide) (fun c171 => ?_) (fun c171 => absurd e0 c171)
  refine lv_iload hx hb dL_law_176 (lv_at hl 1 rfl) ?_
  refine lv_if_ne (tgt := 193) hx hb dL_law_178 (by decide) (fun c178 => ?_) (fun c178 => ?_)
  · refine lv_goto (tgt := 1365) hx hb dL_law_193 (by decide) ?_
    exact kk _ _ _ _ _ _ _ _ h2 hP hS (lv_sub hl [2, 3, 4, 5, 6] rfl)
  · refine lv_aload_n hx hb dL_law_181 rfl (lv_at hl 5 rfl) ?_
    refine lv_iconst (v := 0) hx hb dL_law_182 (by decide) ?_
    refine g_lald (v := L2 135 0) C hP 135 1 (by decide) (fun _ _ => rfl) 0 (show (0 : Int32) = nI 0 from rfl) rfl (by omega) (by decide) dL_law_183 ?_
    refine lv_iload hx hb dL_law_184 (lv_at hl 0 rfl) ?_
    refine lv_i2l (v := b9.toInt64) hx hb dL_law_186 rfl ?_
    refine W.lcmp hx hb dL_law_187 ?_
    refine lv_if_eq (tgt := 193) hx hb dL_law_188 (by decide) (fun c188 => ?_) (fun c188 => absurd ((lg_cmp_eq _ _).mpr (eP c178)) c188)
    refine lv_goto (tgt := 1365) hx hb dL_law_193 (by decide) ?_
    exact kk _ _ _ _ _ _ _ _ h2 hP hS (lv_sub hl [2, 3, 4, 5, 6] rfl)
set_option maxRecDepth 100000 in
set_option maxHeartbeats 8000000 in
theorem law_add (C : gC p s m #[Value.ref b] meth c cL_law 8 RL D cy ad A) (hJ : gJ ad) (hlf : l.stackTraces = false) (hX : va_X b Ln xs s s.heap) (hbl : b < s.heap.size) (hbA : ¬ A b) (h : Inv np ne lc I L) (hP : gP D cy ad I L H) (hS : va_S A s.heap H locs) (hj1 : vp_in (iv + 1) Ln) (hj2 : vp_in (iv + 2) Ln) (hj3 : vp_in (iv + 3) Ln) (hj4 : vp_in (iv + 4) Ln) (hl : lv_has ls 8 [(0, .ref b), (1, .ref (ad 0)), (2, .ref (ad 136)), (3, .ref (ad 135)), (4, .int iv)]) (hcc : cells + 5 ≤ 620044) (hss : slots + 30 ≤ 7235973)
    (kk : ∀ (np ne : Nat) (lc : Nat → Nat) (I : MI) (L : ML) (H : Heap) (locs : List Loc) (ls : Array Slot), Inv np ne lc I L → gP D cy ad I L H → va_S A s.heap H locs → lv_has ls 8 [(0, .ref b), (1, .ref (ad 0)), (2, .ref (ad 136)), (3, .ref (ad 135)), (4, .int iv)] → W p l e room_1 s m #[Value.ref b] below meth c H locs (cells + 5) (slots + 30) Q (F0 m 1365 ls [])) : W p l e room_1 s m #[Value.ref b] below meth c H locs cells slots Q (F0 m 196 ls []) := by
  have hx := C.hx
  have hb := C.hb
  refine lv_aload_n hx hb dL_law_196 rfl (lv_at hl 1 rfl) ?_
  refine lv_aload_n hx hb dL_law_197 rfl (lv_at hl 0 rfl) ?_
  refine lv_iload hx hb dL_law_198 (lv_at hl 4 rfl) ?_
  refine lv_iconst (v := 1) hx hb dL_law_200 (by decide) ?_
  refine lv_iadd hx hb dL_law_201 ?_
  refine va_sld hx hb hX hbl hbA hS hj1 dL_law_202 ?_
  refine lv_aload_n hx hb dL_law_203 rfl (lv_at hl 0 rfl) ?_
  refine lv_iload hx hb dL_law_204 (lv_at hl 4 rfl) ?_
  refine lv_iconst (v := 2) hx hb dL_law_206 (by decide) ?_
  refine lv_iadd hx hb dL_law_207 ?_
  refine va_sld hx hb hX hbl hbA hS hj2 dL_law_208 ?_
  refine lv_aload_n hx hb dL_law_209 rfl (lv_at hl 0 rfl) ?_
  refine lv_iload hx hb dL_law_210 (lv_at hl 4 rfl) ?_
  refine lv_iconst (v := 3) hx hb dL_law_212 (by decide) ?_
  refine lv_iadd hx hb dL_law_213 ?_
  refine va_sld hx hb hX hbl hbA hS hj3 dL_law_214 ?_
  refine lv_aload_n hx hb dL_law_215 rfl (lv_at hl 3 rfl) ?_
  refine gW_call (As := [.ref (ad 0), .int (xs (iv + 1).toNatClampNeg), .int (xs (iv + 2).toNatClampNeg), .int (xs (iv + 3).toNatClampNeg), .ref (ad 135)]) (rest := []) C hP hS hl.1 (ct_L_add l D cy ad hJ hlf np lc (xs (iv + 1).toNatClampNeg) (xs (iv + 2).toNatClampNeg) (xs (iv + 3).toNatClampNeg) I L h.hnp h.np10 h.hlc h.lc4) fw_L_add kl_L_89 kst_L_add rfl ⟨Nat.le_of_ble_eq_true rfl, Nat.le_of_ble_eq_true rfl⟩ (by decide) ⟨by show cells + 4 ≤ 620044; omega, by show slots + 24 ≤ 7235973; omega⟩ dL_law_216 rfl (fun k9 I1 L1 H locs hq hP hS => ?_)
  obtain ⟨hR, hO⟩ := op_add h hq
  have mf := iMF.of h hR
  refine W.widen (k := cells + 5) (n := slots + 30) (by show cells + 4 ≤ cells + 5; omega) (by show slots + 24 ≤ slots + 30; omega) ?_
  refine lv_istore (lv' := [(5, .int k9), (0, .ref b), (1, .ref (ad 0)), (2, .ref (ad 136)), (3, .ref (ad 135)), (4, .int iv)]) hx hb dL_law_219 hl (by decide) rfl (fun ls hl => ?_)
  refine lv_aload_n hx hb dL_law_221 rfl (lv_at hl 3 rfl) ?_
  refine lv_aload_n hx hb dL_law_222 rfl (lv_at hl 1 rfl) ?_
  refine lv_iload hx hb dL_law_223 (lv_at hl 5 rfl) ?_
  refine lv_iconst (v := 1) hx hb dL_law_225 (by decide) ?_
  refine lv_iadd hx hb dL_law_226 ?_
  refine va_sld hx hb hX hbl hbA hS hj1 dL_law_227 ?_
  refine lv_aload_n hx hb dL_law_228 rfl (lv_at hl 1 rfl) ?_
  refine lv_iload hx hb dL_law_229 (lv_at hl 5 rfl) ?_
  refine lv_iconst (v := 2) hx hb dL_law_231 (by decide) ?_
  refine lv_iadd hx hb dL_law_232 ?_
  refine va_sld hx hb hX hbl hbA hS hj2 dL_law_233 ?_
  refine lv_aload_n hx hb dL_law_234 rfl (lv_at hl 1 rfl) ?_
  refine lv_iload hx hb dL_law_235 (lv_at hl 5 rfl) ?_
  refine lv_iconst (v := 3) hx hb dL_law_237 (by decide) ?_
  refine lv_iadd hx hb dL_law_238 ?_
  refine va_sld hx hb hX hbl hbA hS hj3 dL_law_239 ?_
  refine gM_callVi (As := [.int (xs (iv + 1).toNatClampNeg), .int (xs (iv + 2).toNatClampNeg), .int (xs (iv + 3).toNatClampNeg)]) (rest := []) C hP hS hl.1 (ct_X4_add l D cy ad hJ np lc (xs (iv + 1).toNatClampNeg) (xs (iv + 2).toNatClampNeg) (xs (iv + 3).toNatClampNeg) I1 L1 mf.1 h.np10 mf.2.2.1 h.lc4) fa_X4_add kl_L_92 ki_X4_add kse_X4_add (by decide) (T := TX4) rfl rfl rfl ⟨Nat.le_of_ble_eq_true rfl, Nat.le_of_ble_eq_true rfl⟩ (Nat.le_of_ble_eq_true rfl) ⟨by show cells + 5 + 0 ≤ 620044; omega, by show slots + 30 + 0 ≤ 7235973; omega⟩ dL_law_240 rfl (fun b9 I2 L2 H locs hm hP hS => ?_)
  obtain ⟨e0, eP, np2, ne2, lc2, h2⟩ := hO b9 I2 L2 hm
  refine W.widen (k := cells + 5) (n := slots + 30) (by show cells + 5 + 0 ≤ cells + 5; omega) (by show slots + 30 + 0 ≤ slots + 30; omega) ?_
  refine lv_istore (lv' := [(6, .int b9), (5, .int k9), (0, .ref b), (1, .ref (ad 0)), (2, .ref (ad 136)), (3, .ref (ad 135)), (4, .int iv)]) hx hb dL_law_243 hl (by decide) rfl (fun ls hl => ?_)
  refine lv_aload_n hx hb dL_law_245 rfl (lv_at hl 4 rfl) ?_
  refine gM_callVi (As := []) (rest := []) C hP hS hl.1 (ct_X4_thrown l D cy ad hJ I2 L2) fa_X4_thrown kl_L_85 ki_X4_thrown kse_X4_thrown (by decide) (T := TX4) rfl rfl rfl ⟨Nat.le_of_ble_eq_true rfl, Nat.le_of_ble_eq_true rfl⟩ (Nat.le_of_ble_eq_true rfl) ⟨by show cells + 5 + 0 ≤ 620044; omega, by show slots + 30 + 0 ≤ 7235973; omega⟩ dL_law_246 rfl (fun t9 I3 L3 H locs ht hP hS => ?_)
  obtain ⟨rfl, rfl, rfl⟩ := ht
  refine W.widen (k := cells + 5) (n := slots + 30) (by show cells + 5 + 0 ≤ cells + 5; omega) (by show slots + 30 + 0 ≤ slots + 30; omega) ?_
  refine lv_iload hx hb dL_law_249 (lv_at hl 1 rfl) ?_
  refine lv_icmp_eq (tgt := 256) hx hb dL_law_251 (by decide) (fun c251 => ?_) (fun c251 => absurd e0 c251)
  refine lv_iload hx hb dL_law_256 (lv_at hl 1 rfl) ?_
  refine lv_if_ne (tgt := 273) hx hb dL_law_258 (by decide) (fun c258 => ?_) (fun c258 => ?_)
  · refine lv_goto (tgt := 1365) hx hb dL_law_273 (by decide) ?_
    exact kk _ _ _ _ _ _ _ _ h2 hP hS (lv_sub hl [2, 3, 4, 5, 6] rfl)
  · refine lv_aload_n hx hb dL_law_261 rfl (lv_at hl 5 rfl) ?_
    refine lv_iconst (v := 0) hx hb dL_law_262 (by decide) ?_
    refine g_lald (v := L2 135 0) C hP 135 1 (by decide) (fun _ _ => rfl) 0 (show (0 : Int32) = nI 0 from rfl) rfl (by omega) (by decide) dL_law_263 ?_
    refine lv_iload hx hb dL_law_264 (lv_at hl 0 rfl) ?_
    refine lv_i2l (v := b9.toInt64) hx hb dL_law_266 rfl ?_
    refine W.lcmp hx hb dL_law_267 ?_
    refine lv_if_eq (tgt := 273) hx hb dL_law_268 (by decide) (fun c268 => ?_) (fun c268 => absurd ((lg_cmp_eq _ _).mpr (eP c258)) c268)
    refine lv_goto (tgt := 1365) hx hb dL_law_273 (by decide) ?_
    exact kk _ _ _ _ _ _ _ _ h2 hP hS (lv_sub hl [2, 3, 4, 5, 6] rfl)
set_option maxRecDepth 100000 in
set_option maxHeartbeats 8000000 in
theorem law_certify (C : gC p s m #[Value.ref b] meth c cL_law 8 RL D cy ad A) (hJ : gJ ad) (hlf : l.stackTraces = false) (hX : va_X b Ln xs s s.heap) (hbl : b < s.heap.size) (hbA : ¬ A b) (h : Inv np ne lc I L) (hP : gP D cy ad I L H) (hS : va_S A s.heap H locs) (hj1 : vp_in (iv + 1) Ln) (hj2 : vp_in (iv + 2) Ln) (hj3 : vp_in (iv + 3) Ln) (hj4 : vp_in (iv + 4) Ln) (hl : lv_has ls 8 [(0, .ref b), (1, .ref (ad 0)), (2, .ref (ad 136)), (3, .ref (ad 135)), (4, .int iv)]) (hcc : cells + 5 ≤ 620044) (hss : slots + 30 ≤ 7235973)
    (kk : ∀ (np ne : Nat) (lc : Nat → Nat) (I : MI) (L : ML) (H : Heap) (locs : List Loc) (ls : Array Slot), Inv np ne lc I L → gP D cy ad I L H → va_S A s.heap H locs → lv_has ls 8 [(0, .ref b), (1, .ref (ad 0)), (2, .ref (ad 136)), (3, .ref (ad 135)), (4, .int iv)] → W p l e room_1 s m #[Value.ref b] below meth c H locs (cells + 5) (slots + 30) Q (F0 m 1365 ls [])) : W p l e room_1 s m #[Value.ref b] below meth c H locs cells slots Q (F0 m 276 ls []) := by
  have hx := C.hx
  have hb := C.hb
  refine lv_aload_n hx hb dL_law_276 rfl (lv_at hl 1 rfl) ?_
  refine lv_aload_n hx hb dL_law_277 rfl (lv_at hl 0 rfl) ?_
  refine lv_iload hx hb dL_law_278 (lv_at hl 4 rfl) ?_
  refine lv_iconst (v := 1) hx hb dL_law_280 (by decide) ?_
  refine lv_iadd hx hb dL_law_281 ?_
  refine va_sld hx hb hX hbl hbA hS hj1 dL_law_282 ?_
  refine lv_aload_n hx hb dL_law_283 rfl (lv_at hl 0 rfl) ?_
  refine lv_iload hx hb dL_law_284 (lv_at hl 4 rfl) ?_
  refine lv_iconst (v := 2) hx hb dL_law_286 (by decide) ?_
  refine lv_iadd hx hb dL_law_287 ?_
  refine va_sld hx hb hX hbl hbA hS hj2 dL_law_288 ?_
  refine gW_call (As := [.ref (ad 0), .int (xs (iv + 1).toNatClampNeg), .int (xs (iv + 2).toNatClampNeg)]) (rest := []) C hP hS hl.1 (ct_L_certify l D cy ad hJ hlf np lc (xs (iv + 1).toNatClampNeg) (xs (iv + 2).toNatClampNeg) I L h.hnp h.np10 h.hlc h.lc4) fw_L_certify kl_L_93 kst_L_certify rfl ⟨Nat.le_of_ble_eq_true rfl, Nat.le_of_ble_eq_true rfl⟩ (by decide) ⟨by show cells + 4 ≤ 620044; omega, by show slots + 24 ≤ 7235973; omega⟩ dL_law_289 rfl (fun k9 I1 L1 H locs hq hP hS => ?_)
  obtain ⟨hR, hO⟩ := op_certify h hq
  have mf := iMF.of h hR
  refine W.widen (k := cells + 5) (n := slots + 30) (by show cells + 4 ≤ cells + 5; omega) (by show slots + 24 ≤ slots + 30; omega) ?_
  refine lv_istore (lv' := [(5, .int k9), (0, .ref b), (1, .ref (ad 0)), (2, .ref (ad 136)), (3, .ref (ad 135)), (4, .int iv)]) hx hb dL_law_292 hl (by decide) rfl (fun ls hl => ?_)
  refine lv_aload_n hx hb dL_law_294 rfl (lv_at hl 3 rfl) ?_
  refine lv_aload_n hx hb dL_law_295 rfl (lv_at hl 1 rfl) ?_
  refine lv_iload hx hb dL_law_296 (lv_at hl 5 rfl) ?_
  refine lv_iconst (v := 1) hx hb dL_law_298 (by decide) ?_
  refine lv_iadd hx hb dL_law_299 ?_
  refine va_sld hx hb hX hbl hbA hS hj1 dL_law_300 ?_
  refine lv_aload_n hx hb dL_law_301 rfl (lv_at hl 1 rfl) ?_
  refine lv_iload hx hb dL_law_302 (lv_at hl 5 rfl) ?_
  refine lv_iconst (v := 2) hx hb dL_law_304 (by decide) ?_
  refine lv_iadd hx hb dL_law_305 ?_
  refine va_sld hx hb hX hbl hbA hS hj2 dL_law_306 ?_
  refine gM_callVv (As := [.int (xs (iv + 1).toNatClampNeg), .int (xs (iv + 2).toNatClampNeg)]) (rest := []) C hP hS hl.1 (ct_X4_certify l D cy ad hJ np lc (xs (iv + 1).toNatClampNeg) (xs (iv + 2).toNatClampNeg) I1 L1 mf.1 h.np10 mf.2.2.1 h.lc4) fa_X4_certify kl_L_96 ki_X4_certify kse_X4_certify (by decide) (T := TX4) rfl rfl rfl ⟨Nat.le_of_ble_eq_true rfl, Nat.le_of_ble_eq_true rfl⟩ (Nat.le_of_ble_eq_true rfl) ⟨by show cells + 5 + 0 ≤ 620044; omega, by show slots + 30 + 0 ≤ 7235973; omega⟩ dL_law_307 rfl (fun I2 L2 H locs hm hP hS => ?_)
  obtain ⟨e0, eP, np2, ne2, lc2, h2⟩ := hO I2 L2 hm
  refine W.widen (k := cells + 5) (n := slots + 30) (by show cells + 5 + 0 ≤ cells + 5; omega) (by show slots + 30 + 0 ≤ slots + 30; omega) ?_
  refine lv_aload_n hx hb dL_law_310 rfl (lv_at hl 3 rfl) ?_
  refine gM_callVi (As := []) (rest := []) C hP hS hl.1 (ct_X4_thrown l D cy ad hJ I2 L2) fa_X4_thrown kl_L_85 ki_X4_thrown kse_X4_thrown (by decide) (T := TX4) rfl rfl rfl ⟨Nat.le_of_ble_eq_true rfl, Nat.le_of_ble_eq_true rfl⟩ (Nat.le_of_ble_eq_true rfl) ⟨by show cells + 5 + 0 ≤ 620044; omega, by show slots + 30 + 0 ≤ 7235973; omega⟩ dL_law_311 rfl (fun t9 I3 L3 H locs ht hP hS => ?_)
  obtain ⟨rfl, rfl, rfl⟩ := ht
  refine W.widen (k := cells + 5) (n := slots + 30) (by show cells + 5 + 0 ≤ cells + 5; omega) (by show slots + 30 + 0 ≤ slots + 30; omega) ?_
  refine lv_iload hx hb dL_law_314 (lv_at hl 0 rfl) ?_
  refine lv_icmp_eq (tgt := 321) hx hb dL_law_316 (by decide) (fun c316 => ?_) (fun c316 => absurd e0 c316)
  refine lv_goto (tgt := 1365) hx hb dL_law_321 (by decide) ?_
  exact kk _ _ _ _ _ _ _ _ h2 hP hS (lv_sub hl [1, 2, 3, 4, 5] rfl)
set_option maxRecDepth 100000 in
set_option maxHeartbeats 8000000 in
theorem law_grant (C : gC p s m #[Value.ref b] meth c cL_law 8 RL D cy ad A) (hJ : gJ ad) (hlf : l.stackTraces = false) (hX : va_X b Ln xs s s.heap) (hbl : b < s.heap.size) (hbA : ¬ A b) (h : Inv np ne lc I L) (hP : gP D cy ad I L H) (hS : va_S A s.heap H locs) (hj1 : vp_in (iv + 1) Ln) (hj2 : vp_in (iv + 2) Ln) (hj3 : vp_in (iv + 3) Ln) (hj4 : vp_in (iv + 4) Ln) (hl : lv_has ls 8 [(0, .ref b), (1, .ref (ad 0)), (2, .ref (ad 136)), (3, .ref (ad 135)), (4, .int iv)]) (hcc : cells + 5 ≤ 620044) (hss : slots + 30 ≤ 7235973)
    (kk : ∀ (np ne : Nat) (lc : Nat → Nat) (I : MI) (L : ML) (H : Heap) (locs : List Loc) (ls : Array Slot), Inv np ne lc I L → gP D cy ad I L H → va_S A s.heap H locs → lv_has ls 8 [(0, .ref b), (1, .ref (ad 0)), (2, .ref (ad 136)), (3, .ref (ad 135)), (4, .int iv)] → W p l e room_1 s m #[Value.ref b] below meth c H locs (cells + 5) (slots + 30) Q (F0 m 1365 ls [])) : W p l e room_1 s m #[Value.ref b] below meth c H locs cells slots Q (F0 m 324 ls []) := by
  have hx := C.hx
  have hb := C.hb
  refine lv_aload_n hx hb dL_law_324 rfl (lv_at hl 1 rfl) ?_
  refine lv_aload_n hx hb dL_law_325 rfl (lv_at hl 0 rfl) ?_
  refine lv_iload hx hb dL_law_326 (lv_at hl 4 rfl) ?_
  refine lv_iconst (v := 1) hx hb dL_law_328 (by decide) ?_
  refine lv_iadd hx hb dL_law_329 ?_
  refine va_sld hx hb hX hbl hbA hS hj1 dL_law_330 ?_
  refine lv_aload_n hx hb dL_law_331 rfl (lv_at hl 0 rfl) ?_
  refine lv_iload hx hb dL_law_332 (lv_at hl 4 rfl) ?_
  refine lv_iconst (v := 2) hx hb dL_law_334 (by decide) ?_
  refine lv_iadd hx hb dL_law_335 ?_
  refine va_sld hx hb hX hbl hbA hS hj2 dL_law_336 ?_
  refine lv_aload_n hx hb dL_law_337 rfl (lv_at hl 0 rfl) ?_
  refine lv_iload hx hb dL_law_338 (lv_at hl 4 rfl) ?_
  refine lv_iconst (v := 3) hx hb dL_law_340 (by decide) ?_
  refine lv_iadd hx hb dL_law_341 ?_
  refine va_sld hx hb hX hbl hbA hS hj3 dL_law_342 ?_
  refine lv_aload_n hx hb dL_law_343 rfl (lv_at hl 0 rfl) ?_
  refine lv_iload hx hb dL_law_344 (lv_at hl 4 rfl) ?_
  refine lv_iconst (v := 4) hx hb dL_law_346 (by decide) ?_
  refine lv_iadd hx hb dL_law_347 ?_
  refine va_sld hx hb hX hbl hbA hS hj4 dL_law_348 ?_
  refine lv_if_eq (tgt := 356) hx hb dL_law_349 (by decide) (fun c349 => ?_) (fun c349 => ?_)
  · refine lv_iconst (v := 0) hx hb dL_law_356 (by decide) ?_
    refine lv_aload_n hx hb dL_law_357 rfl (lv_at hl 3 rfl) ?_
    refine gW_call (As := [.ref (ad 0), .int (xs (iv + 1).toNatClampNeg), .int (xs (iv + 2).toNatClampNeg), .int (xs (iv + 3).toNatClampNeg), .int 0, .ref (ad 135)]) (rest := []) C hP hS hl.1 (ct_L_grant l D cy ad hJ hlf np (xs (iv + 1).toNatClampNeg) (xs (iv + 2).toNatClampNeg) (xs (iv + 3).toNatClampNeg) 0 I L h.hnp h.np10 (Or.inl rfl)) fw_L_grant kl_L_97 kst_L_grant rfl ⟨Nat.le_of_ble_eq_true rfl, Nat.le_of_ble_eq_true rfl⟩ (by decide) ⟨by show cells + 5 ≤ 620044; omega, by show slots + 30 ≤ 7235973; omega⟩ dL_law_358 rfl (fun k9 I1 L1 H locs hq hP hS => ?_)
    obtain ⟨hR, hO⟩ := op_grant h hq
    have mf := iMF.of h hR
    refine W.widen (k := cells + 5) (n := slots + 30) (by show cells + 5 ≤ cells + 5; omega) (by show slots + 30 ≤ slots + 30; omega) ?_
    refine lv_istore (lv' := [(5, .int k9), (0, .ref b), (1, .ref (ad 0)), (2, .ref (ad 136)), (3, .ref (ad 135)), (4, .int iv)]) hx hb dL_law_361 hl (by decide) rfl (fun ls hl => ?_)
    refine lv_aload_n hx hb dL_law_363 rfl (lv_at hl 3 rfl) ?_
    refine lv_aload_n hx hb dL_law_364 rfl (lv_at hl 1 rfl) ?_
    refine lv_iload hx hb dL_law_365 (lv_at hl 5 rfl) ?_
    refine lv_iconst (v := 1) hx hb dL_law_367 (by decide) ?_
    refine lv_iadd hx hb dL_law_368 ?_
    refine va_sld hx hb hX hbl hbA hS hj1 dL_law_369 ?_
    refine lv_aload_n hx hb dL_law_370 rfl (lv_at hl 1 rfl) ?_
    refine lv_iload hx hb dL_law_371 (lv_at hl 5 rfl) ?_
    refine lv_iconst (v := 2) hx hb dL_law_373 (by decide) ?_
    refine lv_iadd hx hb dL_law_374 ?_
    refine va_sld hx hb hX hbl hbA hS hj2 dL_law_375 ?_
    refine lv_aload_n hx hb dL_law_376 rfl (lv_at hl 1 rfl) ?_
    refine lv_iload hx hb dL_law_377 (lv_at hl 5 rfl) ?_
    refine lv_iconst (v := 3) hx hb dL_law_379 (by decide) ?_
    refine lv_iadd hx hb dL_law_380 ?_
    refine va_sld hx hb hX hbl hbA hS hj3 dL_law_381 ?_
    refine lv_aload_n hx hb dL_law_382 rfl (lv_at hl 1 rfl) ?_
    refine lv_iload hx hb dL_law_383 (lv_at hl 5 rfl) ?_
    refine lv_iconst (v := 4) hx hb dL_law_385 (by decide) ?_
    refine lv_iadd hx hb dL_law_386 ?_
    refine va_sld hx hb hX hbl hbA hS hj4 dL_law_387 ?_
    refine lv_if_eq (tgt := 395) hx hb dL_law_388 (by decide) (fun c388 => ?_) (fun c388 => absurd c349 c388)
    refine lv_iconst (v := 0) hx hb dL_law_395 (by decide) ?_
    refine gM_callVi (As := [.int (xs (iv + 1).toNatClampNeg), .int (xs (iv + 2).toNatClampNeg), .int (xs (iv + 3).toNatClampNeg), .int 0]) (rest := []) C hP hS hl.1 (ct_X4_grant l D cy ad hJ np (xs (iv + 1).toNatClampNeg) (xs (iv + 2).toNatClampNeg) (xs (iv + 3).toNatClampNeg) 0 I1 L1 mf.1 h.np10 (Or.inl rfl)) fa_X4_grant kl_L_100 ki_X4_grant kse_X4_grant (by decide) (T := TX4) rfl rfl rfl ⟨Nat.le_of_ble_eq_true rfl, Nat.le_of_ble_eq_true rfl⟩ (Nat.le_of_ble_eq_true rfl) ⟨by show cells + 5 + 0 ≤ 620044; omega, by show slots + 30 + 0 ≤ 7235973; omega⟩ dL_law_396 rfl (fun b9 I2 L2 H locs hm hP hS => ?_)
    obtain ⟨e0, eP, np2, ne2, lc2, h2⟩ := hO b9 I2 L2 hm
    refine W.widen (k := cells + 5) (n := slots + 30) (by show cells + 5 + 0 ≤ cells + 5; omega) (by show slots + 30 + 0 ≤ slots + 30; omega) ?_
    refine lv_istore (lv' := [(6, .int b9), (5, .int k9), (0, .ref b), (1, .ref (ad 0)), (2, .ref (ad 136)), (3, .ref (ad 135)), (4, .int iv)]) hx hb dL_law_399 hl (by decide) rfl (fun ls hl => ?_)
    refine lv_aload_n hx hb dL_law_401 rfl (lv_at hl 4 rfl) ?_
    refine gM_callVi (As := []) (rest := []) C hP hS hl.1 (ct_X4_thrown l D cy ad hJ I2 L2) fa_X4_thrown kl_L_85 ki_X4_thrown kse_X4_thrown (by decide) (T := TX4) rfl rfl rfl ⟨Nat.le_of_ble_eq_true rfl, Nat.le_of_ble_eq_true rfl⟩ (Nat.le_of_ble_eq_true rfl) ⟨by show cells + 5 + 0 ≤ 620044; omega, by show slots + 30 + 0 ≤ 7235973; omega⟩ dL_law_402 rfl (fun t9 I3 L3 H locs ht hP hS => ?_)
    obtain ⟨rfl, rfl, rfl⟩ := ht
    refine W.widen (k := cells + 5) (n := slots + 30) (by show cells + 5 + 0 ≤ cells + 5; omega) (by show slots + 30 + 0 ≤ slots + 30; omega) ?_
    refine lv_iload hx hb dL_law_405 (lv_at hl 1 rfl) ?_
    refine lv_icmp_eq (tgt := 412) hx hb dL_law_407 (by decide) (fun c407 => ?_) (fun c407 => absurd e0 c407)
    refine lv_iload hx hb dL_law_412 (lv_at hl 1 rfl) ?_
    refine lv_if_ne (tgt := 436) hx hb dL_law_414 (by decide) (fun c414 => ?_) (fun c414 => ?_)
    · refine lv_goto (tgt := 1365) hx hb dL_law_436 (by decide) ?_
      exact kk _ _ _ _ _ _ _ _ h2 hP hS (lv_sub hl [2, 3, 4, 5, 6] rfl)
    · refine lv_aload_n hx hb dL_law_417 rfl (lv_at hl 5 rfl) ?_
      refine lv_iconst (v := 0) hx hb dL_law_418 (by decide) ?_
      refine g_lald (v := L2 135 0) C hP 135 1 (by decide) (fun _ _ => rfl) 0 (show (0 : Int32) = nI 0 from rfl) rfl (by omega) (by decide) dL_law_419 ?_
      refine lv_iload hx hb dL_law_420 (lv_at hl 0 rfl) ?_
      refine lv_if_eq (tgt := 429) hx hb dL_law_422 (by decide) (fun c422 => ?_) (fun c422 => ?_)
      · refine lv_lconst (v := 0) hx hb dL_law_429 (by decide) ?_
        refine W.lcmp hx hb dL_law_430 ?_
        refine lv_if_eq (tgt := 436) hx hb dL_law_431 (by decide) (fun c431 => ?_) (fun c431 => absurd ((lg_cmp_eq _ _).mpr ((eP c414).trans (if_pos c422))) c431)
        refine lv_goto (tgt := 1365) hx hb dL_law_436 (by decide) ?_
        exact kk _ _ _ _ _ _ _ _ h2 hP hS (lv_sub hl [2, 3, 4, 5, 6] rfl)
      · refine lv_lconst (v := 1) hx hb dL_law_425 (by decide) ?_
        refine lv_goto (tgt := 430) hx hb dL_law_426 (by decide) ?_
        refine W.lcmp hx hb dL_law_430 ?_
        refine lv_if_eq (tgt := 436) hx hb dL_law_431 (by decide) (fun c431 => ?_) (fun c431 => absurd ((lg_cmp_eq _ _).mpr ((eP c414).trans (if_neg c422))) c431)
        refine lv_goto (tgt := 1365) hx hb dL_law_436 (by decide) ?_
        exact kk _ _ _ _ _ _ _ _ h2 hP hS (lv_sub hl [2, 3, 4, 5, 6] rfl)
  · refine lv_iconst (v := 1) hx hb dL_law_352 (by decide) ?_
    refine lv_goto (tgt := 357) hx hb dL_law_353 (by decide) ?_
    refine lv_aload_n hx hb dL_law_357 rfl (lv_at hl 3 rfl) ?_
    refine gW_call (As := [.ref (ad 0), .int (xs (iv + 1).toNatClampNeg), .int (xs (iv + 2).toNatClampNeg), .int (xs (iv + 3).toNatClampNeg), .int 1, .ref (ad 135)]) (rest := []) C hP hS hl.1 (ct_L_grant l D cy ad hJ hlf np (xs (iv + 1).toNatClampNeg) (xs (iv + 2).toNatClampNeg) (xs (iv + 3).toNatClampNeg) 1 I L h.hnp h.np10 (Or.inr rfl)) fw_L_grant kl_L_97 kst_L_grant rfl ⟨Nat.le_of_ble_eq_true rfl, Nat.le_of_ble_eq_true rfl⟩ (by decide) ⟨by show cells + 5 ≤ 620044; omega, by show slots + 30 ≤ 7235973; omega⟩ dL_law_358 rfl (fun k9 I1 L1 H locs hq hP hS => ?_)
    obtain ⟨hR, hO⟩ := op_grant h hq
    have mf := iMF.of h hR
    refine W.widen (k := cells + 5) (n := slots + 30) (by show cells + 5 ≤ cells + 5; omega) (by show slots + 30 ≤ slots + 30; omega) ?_
    refine lv_istore (lv' := [(5, .int k9), (0, .ref b), (1, .ref (ad 0)), (2, .ref (ad 136)), (3, .ref (ad 135)), (4, .int iv)]) hx hb dL_law_361 hl (by decide) rfl (fun ls hl => ?_)
    refine lv_aload_n hx hb dL_law_363 rfl (lv_at hl 3 rfl) ?_
    refine lv_aload_n hx hb dL_law_364 rfl (lv_at hl 1 rfl) ?_
    refine lv_iload hx hb dL_law_365 (lv_at hl 5 rfl) ?_
    refine lv_iconst (v := 1) hx hb dL_law_367 (by decide) ?_
    refine lv_iadd hx hb dL_law_368 ?_
    refine va_sld hx hb hX hbl hbA hS hj1 dL_law_369 ?_
    refine lv_aload_n hx hb dL_law_370 rfl (lv_at hl 1 rfl) ?_
    refine lv_iload hx hb dL_law_371 (lv_at hl 5 rfl) ?_
    refine lv_iconst (v := 2) hx hb dL_law_373 (by decide) ?_
    refine lv_iadd hx hb dL_law_374 ?_
    refine va_sld hx hb hX hbl hbA hS hj2 dL_law_375 ?_
    refine lv_aload_n hx hb dL_law_376 rfl (lv_at hl 1 rfl) ?_
    refine lv_iload hx hb dL_law_377 (lv_at hl 5 rfl) ?_
    refine lv_iconst (v := 3) hx hb dL_law_379 (by decide) ?_
    refine lv_iadd hx hb dL_law_380 ?_
    refine va_sld hx hb hX hbl hbA hS hj3 dL_law_381 ?_
    refine lv_aload_n hx hb dL_law_382 rfl (lv_at hl 1 rfl) ?_
    refine lv_iload hx hb dL_law_383 (lv_at hl 5 rfl) ?_
    refine lv_iconst (v := 4) hx hb dL_law_385 (by decide) ?_
    refine lv_iadd hx hb dL_law_386 ?_
    refine va_sld hx hb hX hbl hbA hS hj4 dL_law_387 ?_
    refine lv_if_eq (tgt := 395) hx hb dL_law_388 (by decide) (fun c388 => absurd c388 c349) (fun c388 => ?_)
    refine lv_iconst (v := 1) hx hb dL_law_391 (by decide) ?_
    refine lv_goto (tgt := 396) hx hb dL_law_392 (by decide) ?_
    refine gM_callVi (As := [.int (xs (iv + 1).toNatClampNeg), .int (xs (iv + 2).toNatClampNeg), .int (xs (iv + 3).toNatClampNeg), .int 1]) (rest := []) C hP hS hl.1 (ct_X4_grant l D cy ad hJ np (xs (iv + 1).toNatClampNeg) (xs (iv + 2).toNatClampNeg) (xs (iv + 3).toNatClampNeg) 1 I1 L1 mf.1 h.np10 (Or.inr rfl)) fa_X4_grant kl_L_100 ki_X4_grant kse_X4_grant (by decide) (T := TX4) rfl rfl rfl ⟨Nat.le_of_ble_eq_true rfl, Nat.le_of_ble_eq_true rfl⟩ (Nat.le_of_ble_eq_true rfl) ⟨by show cells + 5 + 0 ≤ 620044; omega, by show slots + 30 + 0 ≤ 7235973; omega⟩ dL_law_396 rfl (fun b9 I2 L2 H locs hm hP hS => ?_)
    obtain ⟨e0, eP, np2, ne2, lc2, h2⟩ := hO b9 I2 L2 hm
    refine W.widen (k := cells + 5) (n := slots + 30) (by show cells + 5 + 0 ≤ cells + 5; omega) (by show slots + 30 + 0 ≤ slots + 30; omega) ?_
    refine lv_istore (lv' := [(6, .int b9), (5, .int k9), (0, .ref b), (1, .ref (ad 0)), (2, .ref (ad 136)), (3, .ref (ad 135)), (4, .int iv)]) hx hb dL_law_399 hl (by decide) rfl (fun ls hl => ?_)
    refine lv_aload_n hx hb dL_law_401 rfl (lv_at hl 4 rfl) ?_
    refine gM_callVi (As := []) (rest := []) C hP hS hl.1 (ct_X4_thrown l D cy ad hJ I2 L2) fa_X4_thrown kl_L_85 ki_X4_thrown kse_X4_thrown (by decide) (T := TX4) rfl rfl rfl ⟨Nat.le_of_ble_eq_true rfl, Nat.le_of_ble_eq_true rfl⟩ (Nat.le_of_ble_eq_true rfl) ⟨by show cells + 5 + 0 ≤ 620044; omega, by show slots + 30 + 0 ≤ 7235973; omega⟩ dL_law_402 rfl (fun t9 I3 L3 H locs ht hP hS => ?_)
    obtain ⟨rfl, rfl, rfl⟩ := ht
    refine W.widen (k := cells + 5) (n := slots + 30) (by show cells + 5 + 0 ≤ cells + 5; omega) (by show slots + 30 + 0 ≤ slots + 30; omega) ?_
    refine lv_iload hx hb dL_law_405 (lv_at hl 1 rfl) ?_
    refine lv_icmp_eq (tgt := 412) hx hb dL_law_407 (by decide) (fun c407 => ?_) (fun c407 => absurd e0 c407)
    refine lv_iload hx hb dL_law_412 (lv_at hl 1 rfl) ?_
    refine lv_if_ne (tgt := 436) hx hb dL_law_414 (by decide) (fun c414 => ?_) (fun c414 => ?_)
    · refine lv_goto (tgt := 1365) hx hb dL_law_436 (by decide) ?_
      exact kk _ _ _ _ _ _ _ _ h2 hP hS (lv_sub hl [2, 3, 4, 5, 6] rfl)
    · refine lv_aload_n hx hb dL_law_417 rfl (lv_at hl 5 rfl) ?_
      refine lv_iconst (v := 0) hx hb dL_law_418 (by decide) ?_
      refine g_lald (v := L2 135 0) C hP 135 1 (by decide) (fun _ _ => rfl) 0 (show (0 : Int32) = nI 0 from rfl) rfl (by omega) (by decide) dL_law_419 ?_
      refine lv_iload hx hb dL_law_420 (lv_at hl 0 rfl) ?_
      refine lv_if_eq (tgt := 429) hx hb dL_law_422 (by decide) (fun c422 => ?_) (fun c422 => ?_)
      · refine lv_lconst (v := 0) hx hb dL_law_429 (by decide) ?_
        refine W.lcmp hx hb dL_law_430 ?_
        refine lv_if_eq (tgt := 436) hx hb dL_law_431 (by decide) (fun c431 => ?_) (fun c431 => absurd ((lg_cmp_eq _ _).mpr ((eP c414).trans (if_pos c422))) c431)
        refine lv_goto (tgt := 1365) hx hb dL_law_436 (by decide) ?_
        exact kk _ _ _ _ _ _ _ _ h2 hP hS (lv_sub hl [2, 3, 4, 5, 6] rfl)
      · refine lv_lconst (v := 1) hx hb dL_law_425 (by decide) ?_
        refine lv_goto (tgt := 430) hx hb dL_law_426 (by decide) ?_
        refine W.lcmp hx hb dL_law_430 ?_
        refine lv_if_eq (tgt := 436) hx hb dL_law_431 (by decide) (fun c431 => ?_) (fun c431 => absurd ((lg_cmp_eq _ _).mpr ((eP c414).trans (if_neg c422))) c431)
        refine lv_goto (tgt := 1365) hx hb dL_law_436 (by decide) ?_
        exact kk _ _ _ _ _ _ _ _ h2 hP hS (lv_sub hl [2, 3, 4, 5, 6] rfl)
set_option maxRecDepth 100000 in
set_option maxHeartbeats 8000000 in
theorem law_floor (C : gC p s m #[Value.ref b] meth c cL_law 8 RL D cy ad A) (hJ : gJ ad) (hlf : l.stackTraces = false) (hX : va_X b Ln xs s s.heap) (hbl : b < s.heap.size) (hbA : ¬ A b) (h : Inv np ne lc I L) (hP : gP D cy ad I L H) (hS : va_S A s.heap H locs) (hj1 : vp_in (iv + 1) Ln) (hj2 : vp_in (iv + 2) Ln) (hj3 : vp_in (iv + 3) Ln) (hj4 : vp_in (iv + 4) Ln) (hl : lv_has ls 8 [(0, .ref b), (1, .ref (ad 0)), (2, .ref (ad 136)), (3, .ref (ad 135)), (4, .int iv)]) (hcc : cells + 5 ≤ 620044) (hss : slots + 30 ≤ 7235973)
    (kk : ∀ (np ne : Nat) (lc : Nat → Nat) (I : MI) (L : ML) (H : Heap) (locs : List Loc) (ls : Array Slot), Inv np ne lc I L → gP D cy ad I L H → va_S A s.heap H locs → lv_has ls 8 [(0, .ref b), (1, .ref (ad 0)), (2, .ref (ad 136)), (3, .ref (ad 135)), (4, .int iv)] → W p l e room_1 s m #[Value.ref b] below meth c H locs (cells + 5) (slots + 30) Q (F0 m 1365 ls [])) : W p l e room_1 s m #[Value.ref b] below meth c H locs cells slots Q (F0 m 439 ls []) := by
  have hx := C.hx
  have hb := C.hb
  refine lv_aload_n hx hb dL_law_439 rfl (lv_at hl 1 rfl) ?_
  refine lv_aload_n hx hb dL_law_440 rfl (lv_at hl 0 rfl) ?_
  refine lv_iload hx hb dL_law_441 (lv_at hl 4 rfl) ?_
  refine lv_iconst (v := 1) hx hb dL_law_443 (by decide) ?_
  refine lv_iadd hx hb dL_law_444 ?_
  refine va_sld hx hb hX hbl hbA hS hj1 dL_law_445 ?_
  refine lv_aload_n hx hb dL_law_446 rfl (lv_at hl 0 rfl) ?_
  refine lv_iload hx hb dL_law_447 (lv_at hl 4 rfl) ?_
  refine lv_iconst (v := 2) hx hb dL_law_449 (by decide) ?_
  refine lv_iadd hx hb dL_law_450 ?_
  refine va_sld hx hb hX hbl hbA hS hj2 dL_law_451 ?_
  refine lv_aload_n hx hb dL_law_452 rfl (lv_at hl 0 rfl) ?_
  refine lv_iload hx hb dL_law_453 (lv_at hl 4 rfl) ?_
  refine lv_iconst (v := 3) hx hb dL_law_455 (by decide) ?_
  refine lv_iadd hx hb dL_law_456 ?_
  refine va_sld hx hb hX hbl hbA hS hj3 dL_law_457 ?_
  refine lv_i2l (v := (xs (iv + 3).toNatClampNeg).toInt64) hx hb dL_law_458 rfl ?_
  refine lv_bipush (v := 32) hx hb dL_law_459 (by decide) ?_
  refine lv_lshl (v := ((xs (iv + 3).toNatClampNeg).toInt64) <<< ((32 : Int32).toInt64 &&& 63)) hx hb dL_law_461 rfl ?_
  refine lv_aload_n hx hb dL_law_462 rfl (lv_at hl 0 rfl) ?_
  refine lv_iload hx hb dL_law_463 (lv_at hl 4 rfl) ?_
  refine lv_iconst (v := 4) hx hb dL_law_465 (by decide) ?_
  refine lv_iadd hx hb dL_law_466 ?_
  refine va_sld hx hb hX hbl hbA hS hj4 dL_law_467 ?_
  refine lv_i2l (v := (xs (iv + 4).toNatClampNeg).toInt64) hx hb dL_law_468 rfl ?_
  refine lv_ldc2 (v := 4294967295) hx hb C.hown (C.hts _ kcn_L_101) dL_law_469 ?_
  refine lv_land hx hb dL_law_472 ?_
  refine lv_lor hx hb dL_law_473 ?_
  refine lv_aload_n hx hb dL_law_474 rfl (lv_at hl 3 rfl) ?_
  refine gW_call (As := [.ref (ad 0), .int (xs (iv + 1).toNatClampNeg), .int (xs (iv + 2).toNatClampNeg), .long ((((xs (iv + 3).toNatClampNeg).toInt64) <<< ((32 : Int32).toInt64 &&& 63)) ||| (((xs (iv + 4).toNatClampNeg).toInt64) &&& 4294967295)), .ref (ad 135)]) (rest := []) C hP hS hl.1 (ct_L_floor l D cy ad hJ hlf (xs (iv + 1).toNatClampNeg) (xs (iv + 2).toNatClampNeg) ((((xs (iv + 3).toNatClampNeg).toInt64) <<< ((32 : Int32).toInt64 &&& 63)) ||| (((xs (iv + 4).toNatClampNeg).toInt64) &&& 4294967295)) I L) fw_L_floor kl_L_103 kst_L_floor rfl ⟨Nat.le_of_ble_eq_true rfl, Nat.le_of_ble_eq_true rfl⟩ (by decide) ⟨by show cells + 4 ≤ 620044; omega, by show slots + 24 ≤ 7235973; omega⟩ dL_law_475 rfl (fun k9 I1 L1 H locs hq hP hS => ?_)
  obtain ⟨hR, hO⟩ := op_floor h hq
  have mf := iMF.of h hR
  refine W.widen (k := cells + 5) (n := slots + 30) (by show cells + 4 ≤ cells + 5; omega) (by show slots + 24 ≤ slots + 30; omega) ?_
  refine lv_istore (lv' := [(5, .int k9), (0, .ref b), (1, .ref (ad 0)), (2, .ref (ad 136)), (3, .ref (ad 135)), (4, .int iv)]) hx hb dL_law_478 hl (by decide) rfl (fun ls hl => ?_)
  refine lv_aload_n hx hb dL_law_480 rfl (lv_at hl 3 rfl) ?_
  refine lv_aload_n hx hb dL_law_481 rfl (lv_at hl 1 rfl) ?_
  refine lv_iload hx hb dL_law_482 (lv_at hl 5 rfl) ?_
  refine lv_iconst (v := 1) hx hb dL_law_484 (by decide) ?_
  refine lv_iadd hx hb dL_law_485 ?_
  refine va_sld hx hb hX hbl hbA hS hj1 dL_law_486 ?_
  refine lv_aload_n hx hb dL_law_487 rfl (lv_at hl 1 rfl) ?_
  refine lv_iload hx hb dL_law_488 (lv_at hl 5 rfl) ?_
  refine lv_iconst (v := 2) hx hb dL_law_490 (by decide) ?_
  refine lv_iadd hx hb dL_law_491 ?_
  refine va_sld hx hb hX hbl hbA hS hj2 dL_law_492 ?_
  refine lv_aload_n hx hb dL_law_493 rfl (lv_at hl 1 rfl) ?_
  refine lv_iload hx hb dL_law_494 (lv_at hl 5 rfl) ?_
  refine lv_iconst (v := 3) hx hb dL_law_496 (by decide) ?_
  refine lv_iadd hx hb dL_law_497 ?_
  refine va_sld hx hb hX hbl hbA hS hj3 dL_law_498 ?_
  refine lv_i2l (v := (xs (iv + 3).toNatClampNeg).toInt64) hx hb dL_law_499 rfl ?_
  refine lv_bipush (v := 32) hx hb dL_law_500 (by decide) ?_
  refine lv_lshl (v := ((xs (iv + 3).toNatClampNeg).toInt64) <<< ((32 : Int32).toInt64 &&& 63)) hx hb dL_law_502 rfl ?_
  refine lv_aload_n hx hb dL_law_503 rfl (lv_at hl 1 rfl) ?_
  refine lv_iload hx hb dL_law_504 (lv_at hl 5 rfl) ?_
  refine lv_iconst (v := 4) hx hb dL_law_506 (by decide) ?_
  refine lv_iadd hx hb dL_law_507 ?_
  refine va_sld hx hb hX hbl hbA hS hj4 dL_law_508 ?_
  refine lv_i2l (v := (xs (iv + 4).toNatClampNeg).toInt64) hx hb dL_law_509 rfl ?_
  refine lv_ldc2 (v := 4294967295) hx hb C.hown (C.hts _ kcn_L_101) dL_law_510 ?_
  refine lv_land hx hb dL_law_513 ?_
  refine lv_lor hx hb dL_law_514 ?_
  refine gM_callVl (As := [.int (xs (iv + 1).toNatClampNeg), .int (xs (iv + 2).toNatClampNeg), .long ((((xs (iv + 3).toNatClampNeg).toInt64) <<< ((32 : Int32).toInt64 &&& 63)) ||| (((xs (iv + 4).toNatClampNeg).toInt64) &&& 4294967295))]) (rest := []) C hP hS hl.1 (ct_X4_floor l D cy ad hJ (xs (iv + 1).toNatClampNeg) (xs (iv + 2).toNatClampNeg) ((((xs (iv + 3).toNatClampNeg).toInt64) <<< ((32 : Int32).toInt64 &&& 63)) ||| (((xs (iv + 4).toNatClampNeg).toInt64) &&& 4294967295)) I1 L1) fa_X4_floor kl_L_106 ki_X4_floor kse_X4_floor (by decide) (T := TX4) rfl rfl rfl ⟨Nat.le_of_ble_eq_true rfl, Nat.le_of_ble_eq_true rfl⟩ (Nat.le_of_ble_eq_true rfl) ⟨by show cells + 5 + 0 ≤ 620044; omega, by show slots + 30 + 0 ≤ 7235973; omega⟩ dL_law_515 rfl (fun b9 I2 L2 H locs hm hP hS => ?_)
  obtain ⟨e0, eP, np2, ne2, lc2, h2⟩ := hO b9 I2 L2 hm
  refine W.widen (k := cells + 5) (n := slots + 30) (by show cells + 5 + 0 ≤ cells + 5; omega) (by show slots + 30 + 0 ≤ slots + 30; omega) ?_
  refine lv_lstore (lv' := [(6, .long b9), (5, .int k9), (0, .ref b), (1, .ref (ad 0)), (2, .ref (ad 136)), (3, .ref (ad 135)), (4, .int iv)]) hx hb dL_law_518 hl (by decide) rfl (fun ls hl => ?_)
  refine lv_aload_n hx hb dL_law_520 rfl (lv_at hl 4 rfl) ?_
  refine gM_callVi (As := []) (rest := []) C hP hS hl.1 (ct_X4_thrown l D cy ad hJ I2 L2) fa_X4_thrown kl_L_85 ki_X4_thrown kse_X4_thrown (by decide) (T := TX4) rfl rfl rfl ⟨Nat.le_of_ble_eq_true rfl, Nat.le_of_ble_eq_true rfl⟩ (Nat.le_of_ble_eq_true rfl) ⟨by show cells + 5 + 0 ≤ 620044; omega, by show slots + 30 + 0 ≤ 7235973; omega⟩ dL_law_521 rfl (fun t9 I3 L3 H locs ht hP hS => ?_)
  obtain ⟨rfl, rfl, rfl⟩ := ht
  refine W.widen (k := cells + 5) (n := slots + 30) (by show cells + 5 + 0 ≤ cells + 5; omega) (by show slots + 30 + 0 ≤ slots + 30; omega) ?_
  refine lv_iload hx hb dL_law_524 (lv_at hl 1 rfl) ?_
  refine lv_icmp_eq (tgt := 531) hx hb dL_law_526 (by decide) (fun c526 => ?_) (fun c526 => absurd e0 c526)
  refine lv_iload hx hb dL_law_531 (lv_at hl 1 rfl) ?_
  refine lv_if_ne (tgt := 547) hx hb dL_law_533 (by decide) (fun c533 => ?_) (fun c533 => ?_)
  · refine lv_goto (tgt := 1365) hx hb dL_law_547 (by decide) ?_
    exact kk _ _ _ _ _ _ _ _ h2 hP hS (lv_sub hl [2, 3, 4, 5, 6] rfl)
  · refine lv_aload_n hx hb dL_law_536 rfl (lv_at hl 5 rfl) ?_
    refine lv_iconst (v := 0) hx hb dL_law_537 (by decide) ?_
    refine g_lald (v := L2 135 0) C hP 135 1 (by decide) (fun _ _ => rfl) 0 (show (0 : Int32) = nI 0 from rfl) rfl (by omega) (by decide) dL_law_538 ?_
    refine lv_lload hx hb dL_law_539 (lv_at hl 0 rfl) ?_
    refine W.lcmp hx hb dL_law_541 ?_
    refine lv_if_eq (tgt := 547) hx hb dL_law_542 (by decide) (fun c542 => ?_) (fun c542 => absurd ((lg_cmp_eq _ _).mpr (eP c533)) c542)
    refine lv_goto (tgt := 1365) hx hb dL_law_547 (by decide) ?_
    exact kk _ _ _ _ _ _ _ _ h2 hP hS (lv_sub hl [2, 3, 4, 5, 6] rfl)
set_option maxRecDepth 100000 in
set_option maxHeartbeats 8000000 in
theorem law_ask (C : gC p s m #[Value.ref b] meth c cL_law 8 RL D cy ad A) (hJ : gJ ad) (hlf : l.stackTraces = false) (hX : va_X b Ln xs s s.heap) (hbl : b < s.heap.size) (hbA : ¬ A b) (h : Inv np ne lc I L) (hP : gP D cy ad I L H) (hS : va_S A s.heap H locs) (hj1 : vp_in (iv + 1) Ln) (hj2 : vp_in (iv + 2) Ln) (hj3 : vp_in (iv + 3) Ln) (hj4 : vp_in (iv + 4) Ln) (hl : lv_has ls 8 [(0, .ref b), (1, .ref (ad 0)), (2, .ref (ad 136)), (3, .ref (ad 135)), (4, .int iv)]) (hcc : cells + 5 ≤ 620044) (hss : slots + 30 ≤ 7235973)
    (kk : ∀ (np ne : Nat) (lc : Nat → Nat) (I : MI) (L : ML) (H : Heap) (locs : List Loc) (ls : Array Slot), Inv np ne lc I L → gP D cy ad I L H → va_S A s.heap H locs → lv_has ls 8 [(0, .ref b), (1, .ref (ad 0)), (2, .ref (ad 136)), (3, .ref (ad 135)), (4, .int iv)] → W p l e room_1 s m #[Value.ref b] below meth c H locs (cells + 5) (slots + 30) Q (F0 m 1365 ls [])) : W p l e room_1 s m #[Value.ref b] below meth c H locs cells slots Q (F0 m 550 ls []) := by
  have hx := C.hx
  have hb := C.hb
  refine lv_aload_n hx hb dL_law_550 rfl (lv_at hl 1 rfl) ?_
  refine lv_aload_n hx hb dL_law_551 rfl (lv_at hl 0 rfl) ?_
  refine lv_iload hx hb dL_law_552 (lv_at hl 4 rfl) ?_
  refine lv_iconst (v := 1) hx hb dL_law_554 (by decide) ?_
  refine lv_iadd hx hb dL_law_555 ?_
  refine va_sld hx hb hX hbl hbA hS hj1 dL_law_556 ?_
  refine lv_aload_n hx hb dL_law_557 rfl (lv_at hl 0 rfl) ?_
  refine lv_iload hx hb dL_law_558 (lv_at hl 4 rfl) ?_
  refine lv_iconst (v := 2) hx hb dL_law_560 (by decide) ?_
  refine lv_iadd hx hb dL_law_561 ?_
  refine va_sld hx hb hX hbl hbA hS hj2 dL_law_562 ?_
  refine lv_aload_n hx hb dL_law_563 rfl (lv_at hl 0 rfl) ?_
  refine lv_iload hx hb dL_law_564 (lv_at hl 4 rfl) ?_
  refine lv_iconst (v := 3) hx hb dL_law_566 (by decide) ?_
  refine lv_iadd hx hb dL_law_567 ?_
  refine va_sld hx hb hX hbl hbA hS hj3 dL_law_568 ?_
  refine lv_i2l (v := (xs (iv + 3).toNatClampNeg).toInt64) hx hb dL_law_569 rfl ?_
  refine lv_bipush (v := 32) hx hb dL_law_570 (by decide) ?_
  refine lv_lshl (v := ((xs (iv + 3).toNatClampNeg).toInt64) <<< ((32 : Int32).toInt64 &&& 63)) hx hb dL_law_572 rfl ?_
  refine lv_aload_n hx hb dL_law_573 rfl (lv_at hl 0 rfl) ?_
  refine lv_iload hx hb dL_law_574 (lv_at hl 4 rfl) ?_
  refine lv_iconst (v := 4) hx hb dL_law_576 (by decide) ?_
  refine lv_iadd hx hb dL_law_577 ?_
  refine va_sld hx hb hX hbl hbA hS hj4 dL_law_578 ?_
  refine lv_i2l (v := (xs (iv + 4).toNatClampNeg).toInt64) hx hb dL_law_579 rfl ?_
  refine lv_ldc2 (v := 4294967295) hx hb C.hown (C.hts _ kcn_L_101) dL_law_580 ?_
  refine lv_land hx hb dL_law_583 ?_
  refine lv_lor hx hb dL_law_584 ?_
  refine lv_aload_n hx hb dL_law_585 rfl (lv_at hl 3 rfl) ?_
  refine gW_call (As := [.ref (ad 0), .int (xs (iv + 1).toNatClampNeg), .int (xs (iv + 2).toNatClampNeg), .long ((((xs (iv + 3).toNatClampNeg).toInt64) <<< ((32 : Int32).toInt64 &&& 63)) ||| (((xs (iv + 4).toNatClampNeg).toInt64) &&& 4294967295)), .ref (ad 135)]) (rest := []) C hP hS hl.1 (ct_L_ask l D cy ad hJ hlf np ne lc (xs (iv + 1).toNatClampNeg) (xs (iv + 2).toNatClampNeg) ((((xs (iv + 3).toNatClampNeg).toInt64) <<< ((32 : Int32).toInt64 &&& 63)) ||| (((xs (iv + 4).toNatClampNeg).toInt64) &&& 4294967295)) I L h.hnp h.np10 h.hne h.ne40 h.hlc h.lc4 h.lc1 h.hac) fw_L_ask kl_L_107 kst_L_ask rfl ⟨Nat.le_of_ble_eq_true rfl, Nat.le_of_ble_eq_true rfl⟩ (by decide) ⟨by show cells + 5 ≤ 620044; omega, by show slots + 30 ≤ 7235973; omega⟩ dL_law_586 rfl (fun k9 I1 L1 H locs hq hP hS => ?_)
  obtain ⟨hR, hO⟩ := op_ask h hq
  have mf := iMF.of h hR
  refine W.widen (k := cells + 5) (n := slots + 30) (by show cells + 5 ≤ cells + 5; omega) (by show slots + 30 ≤ slots + 30; omega) ?_
  refine lv_istore (lv' := [(5, .int k9), (0, .ref b), (1, .ref (ad 0)), (2, .ref (ad 136)), (3, .ref (ad 135)), (4, .int iv)]) hx hb dL_law_589 hl (by decide) rfl (fun ls hl => ?_)
  refine lv_aload_n hx hb dL_law_591 rfl (lv_at hl 3 rfl) ?_
  refine lv_aload_n hx hb dL_law_592 rfl (lv_at hl 1 rfl) ?_
  refine lv_iload hx hb dL_law_593 (lv_at hl 5 rfl) ?_
  refine lv_iconst (v := 1) hx hb dL_law_595 (by decide) ?_
  refine lv_iadd hx hb dL_law_596 ?_
  refine va_sld hx hb hX hbl hbA hS hj1 dL_law_597 ?_
  refine lv_aload_n hx hb dL_law_598 rfl (lv_at hl 1 rfl) ?_
  refine lv_iload hx hb dL_law_599 (lv_at hl 5 rfl) ?_
  refine lv_iconst (v := 2) hx hb dL_law_601 (by decide) ?_
  refine lv_iadd hx hb dL_law_602 ?_
  refine va_sld hx hb hX hbl hbA hS hj2 dL_law_603 ?_
  refine lv_aload_n hx hb dL_law_604 rfl (lv_at hl 1 rfl) ?_
  refine lv_iload hx hb dL_law_605 (lv_at hl 5 rfl) ?_
  refine lv_iconst (v := 3) hx hb dL_law_607 (by decide) ?_
  refine lv_iadd hx hb dL_law_608 ?_
  refine va_sld hx hb hX hbl hbA hS hj3 dL_law_609 ?_
  refine lv_i2l (v := (xs (iv + 3).toNatClampNeg).toInt64) hx hb dL_law_610 rfl ?_
  refine lv_bipush (v := 32) hx hb dL_law_611 (by decide) ?_
  refine lv_lshl (v := ((xs (iv + 3).toNatClampNeg).toInt64) <<< ((32 : Int32).toInt64 &&& 63)) hx hb dL_law_613 rfl ?_
  refine lv_aload_n hx hb dL_law_614 rfl (lv_at hl 1 rfl) ?_
  refine lv_iload hx hb dL_law_615 (lv_at hl 5 rfl) ?_
  refine lv_iconst (v := 4) hx hb dL_law_617 (by decide) ?_
  refine lv_iadd hx hb dL_law_618 ?_
  refine va_sld hx hb hX hbl hbA hS hj4 dL_law_619 ?_
  refine lv_i2l (v := (xs (iv + 4).toNatClampNeg).toInt64) hx hb dL_law_620 rfl ?_
  refine lv_ldc2 (v := 4294967295) hx hb C.hown (C.hts _ kcn_L_101) dL_law_621 ?_
  refine lv_land hx hb dL_law_624 ?_
  refine lv_lor hx hb dL_law_625 ?_
  refine gM_callVi (As := [.int (xs (iv + 1).toNatClampNeg), .int (xs (iv + 2).toNatClampNeg), .long ((((xs (iv + 3).toNatClampNeg).toInt64) <<< ((32 : Int32).toInt64 &&& 63)) ||| (((xs (iv + 4).toNatClampNeg).toInt64) &&& 4294967295))]) (rest := []) C hP hS hl.1 (ct_X4_ask l D cy ad hJ np ne lc (xs (iv + 1).toNatClampNeg) (xs (iv + 2).toNatClampNeg) ((((xs (iv + 3).toNatClampNeg).toInt64) <<< ((32 : Int32).toInt64 &&& 63)) ||| (((xs (iv + 4).toNatClampNeg).toInt64) &&& 4294967295)) I1 L1 mf.1 h.np10 mf.2.1 h.ne40 mf.2.2.1 h.lc4 mf.2.2.2.1 (fun e he => vp_mono (mf.2.2.2.2.1 e he) h.np10) mf.2.2.2.2.2.1) fa_X4_ask kl_L_109 ki_X4_ask kse_X4_ask (by decide) (T := TX4) rfl rfl rfl ⟨Nat.le_of_ble_eq_true rfl, Nat.le_of_ble_eq_true rfl⟩ (Nat.le_of_ble_eq_true rfl) ⟨by show cells + 5 + 0 ≤ 620044; omega, by show slots + 30 + 0 ≤ 7235973; omega⟩ dL_law_626 rfl (fun b9 I2 L2 H locs hm hP hS => ?_)
  obtain ⟨e0, eP, np2, ne2, lc2, h2⟩ := hO b9 I2 L2 hm
  refine W.widen (k := cells + 5) (n := slots + 30) (by show cells + 5 + 0 ≤ cells + 5; omega) (by show slots + 30 + 0 ≤ slots + 30; omega) ?_
  refine lv_istore (lv' := [(6, .int b9), (5, .int k9), (0, .ref b), (1, .ref (ad 0)), (2, .ref (ad 136)), (3, .ref (ad 135)), (4, .int iv)]) hx hb dL_law_629 hl (by decide) rfl (fun ls hl => ?_)
  refine lv_aload_n hx hb dL_law_631 rfl (lv_at hl 4 rfl) ?_
  refine gM_callVi (As := []) (rest := []) C hP hS hl.1 (ct_X4_thrown l D cy ad hJ I2 L2) fa_X4_thrown kl_L_85 ki_X4_thrown kse_X4_thrown (by decide) (T := TX4) rfl rfl rfl ⟨Nat.le_of_ble_eq_true rfl, Nat.le_of_ble_eq_true rfl⟩ (Nat.le_of_ble_eq_true rfl) ⟨by show cells + 5 + 0 ≤ 620044; omega, by show slots + 30 + 0 ≤ 7235973; omega⟩ dL_law_632 rfl (fun t9 I3 L3 H locs ht hP hS => ?_)
  obtain ⟨rfl, rfl, rfl⟩ := ht
  refine W.widen (k := cells + 5) (n := slots + 30) (by show cells + 5 + 0 ≤ cells + 5; omega) (by show slots + 30 + 0 ≤ slots + 30; omega) ?_
  refine lv_iload hx hb dL_law_635 (lv_at hl 1 rfl) ?_
  refine lv_icmp_eq (tgt := 642) hx hb dL_law_637 (by decide) (fun c637 => ?_) (fun c637 => absurd e0 c637)
  refine lv_iload hx hb dL_law_642 (lv_at hl 1 rfl) ?_
  refine lv_if_ne (tgt := 659) hx hb dL_law_644 (by decide) (fun c644 => ?_) (fun c644 => ?_)
  · refine lv_goto (tgt := 1365) hx hb dL_law_659 (by decide) ?_
    exact kk _ _ _ _ _ _ _ _ h2 hP hS (lv_sub hl [2, 3, 4, 5, 6] rfl)
  · refine lv_aload_n hx hb dL_law_647 rfl (lv_at hl 5 rfl) ?_
    refine lv_iconst (v := 0) hx hb dL_law_648 (by decide) ?_
    refine g_lald (v := L2 135 0) C hP 135 1 (by decide) (fun _ _ => rfl) 0 (show (0 : Int32) = nI 0 from rfl) rfl (by omega) (by decide) dL_law_649 ?_
    refine lv_iload hx hb dL_law_650 (lv_at hl 0 rfl) ?_
    refine lv_i2l (v := b9.toInt64) hx hb dL_law_652 rfl ?_
    refine W.lcmp hx hb dL_law_653 ?_
    refine lv_if_eq (tgt := 659) hx hb dL_law_654 (by decide) (fun c654 => ?_) (fun c654 => absurd ((lg_cmp_eq _ _).mpr (eP c644)) c654)
    refine lv_goto (tgt := 1365) hx hb dL_law_659 (by decide) ?_
    exact kk _ _ _ _ _ _ _ _ h2 hP hS (lv_sub hl [2, 3, 4, 5, 6] rfl)
set_option maxRecDepth 100000 in
set_option maxHeartbeats 8000000 in
theorem law_approve (C : gC p s m #[Value.ref b] meth c cL_law 8 RL D cy ad A) (hJ : gJ ad) (hlf : l.stackTraces = false) (hX : va_X b Ln xs s s.heap) (hbl : b < s.heap.size) (hbA : ¬ A b) (h : Inv np ne lc I L) (hP : gP D cy ad I L H) (hS : va_S A s.heap H locs) (hj1 : vp_in (iv + 1) Ln) (hj2 : vp_in (iv + 2) Ln) (hj3 : vp_in (iv + 3) Ln) (hj4 : vp_in (iv + 4) Ln) (hl : lv_has ls 8 [(0, .ref b), (1, .ref (ad 0)), (2, .ref (ad 136)), (3, .ref (ad 135)), (4, .int iv)]) (hcc : cells + 5 ≤ 620044) (hss : slots + 30 ≤ 7235973)
    (kk : ∀ (np ne : Nat) (lc : Nat → Nat) (I : MI) (L : ML) (H : Heap) (locs : List Loc) (ls : Array Slot), Inv np ne lc I L → gP D cy ad I L H → va_S A s.heap H locs → lv_has ls 8 [(0, .ref b), (1, .ref (ad 0)), (2, .ref (ad 136)), (3, .ref (ad 135)), (4, .int iv)] → W p l e room_1 s m #[Value.ref b] below meth c H locs (cells + 5) (slots + 30) Q (F0 m 1365 ls [])) : W p l e room_1 s m #[Value.ref b] below meth c H locs cells slots Q (F0 m 662 ls []) := by
  have hx := C.hx
  have hb := C.hb
  refine lv_aload_n hx hb dL_law_662 rfl (lv_at hl 1 rfl) ?_
  refine lv_aload_n hx hb dL_law_663 rfl (lv_at hl 0 rfl) ?_
  refine lv_iload hx hb dL_law_664 (lv_at hl 4 rfl) ?_
  refine lv_iconst (v := 1) hx hb dL_law_666 (by decide) ?_
  refine lv_iadd hx hb dL_law_667 ?_
  refine va_sld hx hb hX hbl hbA hS hj1 dL_law_668 ?_
  refine lv_aload_n hx hb dL_law_669 rfl (lv_at hl 0 rfl) ?_
  refine lv_iload hx hb dL_law_670 (lv_at hl 4 rfl) ?_
  refine lv_iconst (v := 2) hx hb dL_law_672 (by decide) ?_
  refine lv_iadd hx hb dL_law_673 ?_
  refine va_sld hx hb hX hbl hbA hS hj2 dL_law_674 ?_
  refine lv_aload_n hx hb dL_law_675 rfl (lv_at hl 3 rfl) ?_
  refine gW_call (As := [.ref (ad 0), .int (xs (iv + 1).toNatClampNeg), .int (xs (iv + 2).toNatClampNeg), .ref (ad 135)]) (rest := []) C hP hS hl.1 (ct_L_approve l D cy ad hJ hlf np ne lc (xs (iv + 1).toNatClampNeg) (xs (iv + 2).toNatClampNeg) I L h.hnp h.np10 h.hne h.ne40 h.hlc h.lc4 h.lc1 h.hac) fw_L_approve kl_L_110 kst_L_approve rfl ⟨Nat.le_of_ble_eq_true rfl, Nat.le_of_ble_eq_true rfl⟩ (by decide) ⟨by show cells + 5 ≤ 620044; omega, by show slots + 30 ≤ 7235973; omega⟩ dL_law_676 rfl (fun k9 I1 L1 H locs hq hP hS => ?_)
  obtain ⟨hR, hO⟩ := op_approve h hq
  have mf := iMF.of h hR
  refine W.widen (k := cells + 5) (n := slots + 30) (by show cells + 5 ≤ cells + 5; omega) (by show slots + 30 ≤ slots + 30; omega) ?_
  refine lv_istore (lv' := [(5, .int k9), (0, .ref b), (1, .ref (ad 0)), (2, .ref (ad 136)), (3, .ref (ad 135)), (4, .int iv)]) hx hb dL_law_679 hl (by decide) rfl (fun ls hl => ?_)
  refine lv_aload_n hx hb dL_law_681 rfl (lv_at hl 3 rfl) ?_
  refine lv_aload_n hx hb dL_law_682 rfl (lv_at hl 1 rfl) ?_
  refine lv_iload hx hb dL_law_683 (lv_at hl 5 rfl) ?_
  refine lv_iconst (v := 1) hx hb dL_law_685 (by decide) ?_
  refine lv_iadd hx hb dL_law_686 ?_
  refine va_sld hx hb hX hbl hbA hS hj1 dL_law_687 ?_
  refine lv_aload_n hx hb dL_law_688 rfl (lv_at hl 1 rfl) ?_
  refine lv_iload hx hb dL_law_689 (lv_at hl 5 rfl) ?_
  refine lv_iconst (v := 2) hx hb dL_law_691 (by decide) ?_
  refine lv_iadd hx hb dL_law_692 ?_
  refine va_sld hx hb hX hbl hbA hS hj2 dL_law_693 ?_
  refine gM_callVi (As := [.int (xs (iv + 1).toNatClampNeg), .int (xs (iv + 2).toNatClampNeg)]) (rest := []) C hP hS hl.1 (ct_X4_approve l D cy ad hJ np ne lc (xs (iv + 1).toNatClampNeg) (xs (iv + 2).toNatClampNeg) I1 L1 mf.1 h.np10 mf.2.1 h.ne40 mf.2.2.1 h.lc4 mf.2.2.2.1 (fun e he => vp_mono (mf.2.2.2.2.1 e he) h.np10) mf.2.2.2.2.2.1 mf.2.2.2.2.2.2) fa_X4_approve kl_L_112 ki_X4_approve kse_X4_approve (by decide) (T := TX4) rfl rfl rfl ⟨Nat.le_of_ble_eq_true rfl, Nat.le_of_ble_eq_true rfl⟩ (Nat.le_of_ble_eq_true rfl) ⟨by show cells + 5 + 0 ≤ 620044; omega, by show slots + 30 + 0 ≤ 7235973; omega⟩ dL_law_694 rfl (fun b9 I2 L2 H locs hm hP hS => ?_)
  obtain ⟨e0, eP, np2, ne2, lc2, h2⟩ := hO b9 I2 L2 hm
  refine W.widen (k := cells + 5) (n := slots + 30) (by show cells + 5 + 0 ≤ cells + 5; omega) (by show slots + 30 + 0 ≤ slots + 30; omega) ?_
  refine lv_istore (lv' := [(6, .int b9), (5, .int k9), (0, .ref b), (1, .ref (ad 0)), (2, .ref (ad 136)), (3, .ref (ad 135)), (4, .int iv)]) hx hb dL_law_697 hl (by decide) rfl (fun ls hl => ?_)
  refine lv_aload_n hx hb dL_law_699 rfl (lv_at hl 4 rfl) ?_
  refine gM_callVi (As := []) (rest := []) C hP hS hl.1 (ct_X4_thrown l D cy ad hJ I2 L2) fa_X4_thrown kl_L_85 ki_X4_thrown kse_X4_thrown (by decide) (T := TX4) rfl rfl rfl ⟨Nat.le_of_ble_eq_true rfl, Nat.le_of_ble_eq_true rfl⟩ (Nat.le_of_ble_eq_true rfl) ⟨by show cells + 5 + 0 ≤ 620044; omega, by show slots + 30 + 0 ≤ 7235973; omega⟩ dL_law_700 rfl (fun t9 I3 L3 H locs ht hP hS => ?_)
  obtain ⟨rfl, rfl, rfl⟩ := ht
  refine W.widen (k := cells + 5) (n := slots + 30) (by show cells + 5 + 0 ≤ cells + 5; omega) (by show slots + 30 + 0 ≤ slots + 30; omega) ?_
  refine lv_iload hx hb dL_law_703 (lv_at hl 1 rfl) ?_
  refine lv_icmp_eq (tgt := 710) hx hb dL_law_705 (by decide) (fun c705 => ?_) (fun c705 => absurd e0 c705)
  refine lv_iload hx hb dL_law_710 (lv_at hl 1 rfl) ?_
  refine lv_if_ne (tgt := 727) hx hb dL_law_712 (by decide) (fun c712 => ?_) (fun c712 => ?_)
  · refine lv_goto (tgt := 1365) hx hb dL_law_727 (by decide) ?_
    exact kk _ _ _ _ _ _ _ _ h2 hP hS (lv_sub hl [2, 3, 4, 5, 6] rfl)
  · refine lv_aload_n hx hb dL_law_715 rfl (lv_at hl 5 rfl) ?_
    refine lv_iconst (v := 0) hx hb dL_law_716 (by decide) ?_
    refine g_lald (v := L2 135 0) C hP 135 1 (by decide) (fun _ _ => rfl) 0 (show (0 : Int32) = nI 0 from rfl) rfl (by omega) (by decide) dL_law_717 ?_
    refine lv_iload hx hb dL_law_718 (lv_at hl 0 rfl) ?_
    refine lv_i2l (v := b9.toInt64) hx hb dL_law_720 rfl ?_
    refine W.lcmp hx hb dL_law_721 ?_
    refine lv_if_eq (tgt := 727) hx hb dL_law_722 (by decide) (fun c722 => ?_) (fun c722 => absurd ((lg_cmp_eq _ _).mpr (eP c712)) c722)
    refine lv_goto (tgt := 1365) hx hb dL_law_727 (by decide) ?_
    exact kk _ _ _ _ _ _ _ _ h2 hP hS (lv_sub hl [2, 3, 4, 5, 6] rfl)
set_option maxRecDepth 100000 in
set_option maxHeartbeats 8000000 in
theorem law_withdraw (C : gC p s m #[Value.ref b] meth c cL_law 8 RL D cy ad A) (hJ : gJ ad) (hlf : l.stackTraces = false) (hX : va_X b Ln xs s s.heap) (hbl : b < s.heap.size) (hbA : ¬ A b) (h : Inv np ne lc I L) (hP : gP D cy ad I L H) (hS : va_S A s.heap H locs) (hj1 : vp_in (iv + 1) Ln) (hj2 : vp_in (iv + 2) Ln) (hj3 : vp_in (iv + 3) Ln) (hj4 : vp_in (iv + 4) Ln) (hl : lv_has ls 8 [(0, .ref b), (1, .ref (ad 0)), (2, .ref (ad 136)), (3, .ref (ad 135)), (4, .int iv)]) (hcc : cells + 5 ≤ 620044) (hss : slots + 30 ≤ 7235973)
    (kk : ∀ (np ne : Nat) (lc : Nat → Nat) (I : MI) (L : ML) (H : Heap) (locs : List Loc) (ls : Array Slot), Inv np ne lc I L → gP D cy ad I L H → va_S A s.heap H locs → lv_has ls 8 [(0, .ref b), (1, .ref (ad 0)), (2, .ref (ad 136)), (3, .ref (ad 135)), (4, .int iv)] → W p l e room_1 s m #[Value.ref b] below meth c H locs (cells + 5) (slots + 30) Q (F0 m 1365 ls [])) : W p l e room_1 s m #[Value.ref b] below meth c H locs cells slots Q (F0 m 730 ls []) := by
  have hx := C.hx
  have hb := C.hb
  refine lv_aload_n hx hb dL_law_730 rfl (lv_at hl 1 rfl) ?_
  refine lv_aload_n hx hb dL_law_731 rfl (lv_at hl 0 rfl) ?_
  refine lv_iload hx hb dL_law_732 (lv_at hl 4 rfl) ?_
  refine lv_iconst (v := 1) hx hb dL_law_734 (by decide) ?_
  refine lv_iadd hx hb dL_law_735 ?_
  refine va_sld hx hb hX hbl hbA hS hj1 dL_law_736 ?_
  refine lv_aload_n hx hb dL_law_737 rfl (lv_at hl 0 rfl) ?_
  refine lv_iload hx hb dL_law_738 (lv_at hl 4 rfl) ?_
  refine lv_iconst (v := 2) hx hb dL_law_740 (by decide) ?_
  refine lv_iadd hx hb dL_law_741 ?_
  refine va_sld hx hb hX hbl hbA hS hj2 dL_law_742 ?_
  refine gW_call (As := [.ref (ad 0), .int (xs (iv + 1).toNatClampNeg), .int (xs (iv + 2).toNatClampNeg)]) (rest := []) C hP hS hl.1 (ct_L_withdraw l D cy ad hJ hlf np (xs (iv + 1).toNatClampNeg) (xs (iv + 2).toNatClampNeg) I L h.hnp h.np10) fw_L_withdraw kl_L_113 kst_L_withdraw rfl ⟨Nat.le_of_ble_eq_true rfl, Nat.le_of_ble_eq_true rfl⟩ (by decide) ⟨by show cells + 3 ≤ 620044; omega, by show slots + 18 ≤ 7235973; omega⟩ dL_law_743 rfl (fun k9 I1 L1 H locs hq hP hS => ?_)
  obtain ⟨hR, hO⟩ := op_withdraw h hq
  have mf := iMF.of h hR
  refine W.widen (k := cells + 5) (n := slots + 30) (by show cells + 3 ≤ cells + 5; omega) (by show slots + 18 ≤ slots + 30; omega) ?_
  refine lv_istore (lv' := [(5, .int k9), (0, .ref b), (1, .ref (ad 0)), (2, .ref (ad 136)), (3, .ref (ad 135)), (4, .int iv)]) hx hb dL_law_746 hl (by decide) rfl (fun ls hl => ?_)
  refine lv_aload_n hx hb dL_law_748 rfl (lv_at hl 3 rfl) ?_
  refine lv_aload_n hx hb dL_law_749 rfl (lv_at hl 1 rfl) ?_
  refine lv_iload hx hb dL_law_750 (lv_at hl 5 rfl) ?_
  refine lv_iconst (v := 1) hx hb dL_law_752 (by decide) ?_
  refine lv_iadd hx hb dL_law_753 ?_
  refine va_sld hx hb hX hbl hbA hS hj1 dL_law_754 ?_
  refine lv_aload_n hx hb dL_law_755 rfl (lv_at hl 1 rfl) ?_
  refine lv_iload hx hb dL_law_756 (lv_at hl 5 rfl) ?_
  refine lv_iconst (v := 2) hx hb dL_law_758 (by decide) ?_
  refine lv_iadd hx hb dL_law_759 ?_
  refine va_sld hx hb hX hbl hbA hS hj2 dL_law_760 ?_
  refine gM_callVv (As := [.int (xs (iv + 1).toNatClampNeg), .int (xs (iv + 2).toNatClampNeg)]) (rest := []) C hP hS hl.1 (ct_X4_withdraw l D cy ad hJ np (xs (iv + 1).toNatClampNeg) (xs (iv + 2).toNatClampNeg) I1 L1 mf.1 h.np10 mf.2.2.2.2.2.2) fa_X4_withdraw kl_L_115 ki_X4_withdraw kse_X4_withdraw (by decide) (T := TX4) rfl rfl rfl ⟨Nat.le_of_ble_eq_true rfl, Nat.le_of_ble_eq_true rfl⟩ (Nat.le_of_ble_eq_true rfl) ⟨by show cells + 5 + 0 ≤ 620044; omega, by show slots + 30 + 0 ≤ 7235973; omega⟩ dL_law_761 rfl (fun I2 L2 H locs hm hP hS => ?_)
  obtain ⟨e0, eP, np2, ne2, lc2, h2⟩ := hO I2 L2 hm
  refine W.widen (k := cells + 5) (n := slots + 30) (by show cells + 5 + 0 ≤ cells + 5; omega) (by show slots + 30 + 0 ≤ slots + 30; omega) ?_
  refine lv_aload_n hx hb dL_law_764 rfl (lv_at hl 3 rfl) ?_
  refine gM_callVi (As := []) (rest := []) C hP hS hl.1 (ct_X4_thrown l D cy ad hJ I2 L2) fa_X4_thrown kl_L_85 ki_X4_thrown kse_X4_thrown (by decide) (T := TX4) rfl rfl rfl ⟨Nat.le_of_ble_eq_true rfl, Nat.le_of_ble_eq_true rfl⟩ (Nat.le_of_ble_eq_true rfl) ⟨by show cells + 5 + 0 ≤ 620044; omega, by show slots + 30 + 0 ≤ 7235973; omega⟩ dL_law_765 rfl (fun t9 I3 L3 H locs ht hP hS => ?_)
  obtain ⟨rfl, rfl, rfl⟩ := ht
  refine W.widen (k := cells + 5) (n := slots + 30) (by show cells + 5 + 0 ≤ cells + 5; omega) (by show slots + 30 + 0 ≤ slots + 30; omega) ?_
  refine lv_iload hx hb dL_law_768 (lv_at hl 0 rfl) ?_
  refine lv_icmp_eq (tgt := 775) hx hb dL_law_770 (by decide) (fun c770 => ?_) (fun c770 => absurd e0 c770)
  refine lv_goto (tgt := 1365) hx hb dL_law_775 (by decide) ?_
  exact kk _ _ _ _ _ _ _ _ h2 hP hS (lv_sub hl [1, 2, 3, 4, 5] rfl)
set_option maxRecDepth 100000 in
set_option maxHeartbeats 8000000 in
theorem law_reverse (C : gC p s m #[Value.ref b] meth c cL_law 8 RL D cy ad A) (hJ : gJ ad) (hlf : l.stackTraces = false) (hX : va_X b Ln xs s s.heap) (hbl : b < s.heap.size) (hbA : ¬ A b) (h : Inv np ne lc I L) (hP : gP D cy ad I L H) (hS : va_S A s.heap H locs) (hj1 : vp_in (iv + 1) Ln) (hj2 : vp_in (iv + 2) Ln) (hj3 : vp_in (iv + 3) Ln) (hj4 : vp_in (iv + 4) Ln) (hl : lv_has ls 8 [(0, .ref b), (1, .ref (ad 0)), (2, .ref (ad 136)), (3, .ref (ad 135)), (4, .int iv)]) (hcc : cells + 5 ≤ 620044) (hss : slots + 30 ≤ 7235973)
    (kk : ∀ (np ne : Nat) (lc : Nat → Nat) (I : MI) (L : ML) (H : Heap) (locs : List Loc) (ls : Array Slot), Inv np ne lc I L → gP D cy ad I L H → va_S A s.heap H locs → lv_has ls 8 [(0, .ref b), (1, .ref (ad 0)), (2, .ref (ad 136)), (3, .ref (ad 135)), (4, .int iv)] → W p l e room_1 s m #[Value.ref b] below meth c H locs (cells + 5) (slots + 30) Q (F0 m 1365 ls [])) : W p l e room_1 s m #[Value.ref b] below meth c H locs cells slots Q (F0 m 778 ls []) := by
  have hx := C.hx
  have hb := C.hb
  refine lv_aload_n hx hb dL_law_778 rfl (lv_at hl 1 rfl) ?_
  refine lv_aload_n hx hb dL_law_779 rfl (lv_at hl 0 rfl) ?_
  refine lv_iload hx hb dL_law_780 (lv_at hl 4 rfl) ?_
  refine lv_iconst (v := 1) hx hb dL_law_782 (by decide) ?_
  refine lv_iadd hx hb dL_law_783 ?_
  refine va_sld hx hb hX hbl hbA hS hj1 dL_law_784 ?_
  refine lv_aload_n hx hb dL_law_785 rfl (lv_at hl 0 rfl) ?_
  refine lv_iload hx hb dL_law_786 (lv_at hl 4 rfl) ?_
  refine lv_iconst (v := 2) hx hb dL_law_788 (by decide) ?_
  refine lv_iadd hx hb dL_law_789 ?_
  refine va_sld hx hb hX hbl hbA hS hj2 dL_law_790 ?_
  refine lv_aload_n hx hb dL_law_791 rfl (lv_at hl 3 rfl) ?_
  refine gW_call (As := [.ref (ad 0), .int (xs (iv + 1).toNatClampNeg), .int (xs (iv + 2).toNatClampNeg), .ref (ad 135)]) (rest := []) C hP hS hl.1 (ct_L_reverse l D cy ad hJ hlf np ne lc (xs (iv + 1).toNatClampNeg) (xs (iv + 2).toNatClampNeg) I L h.hnp h.np10 h.hne h.ne40 h.hlc h.lc4 h.lc1 h.hac) fw_L_reverse kl_L_116 kst_L_reverse rfl ⟨Nat.le_of_ble_eq_true rfl, Nat.le_of_ble_eq_true rfl⟩ (by decide) ⟨by show cells + 5 ≤ 620044; omega, by show slots + 30 ≤ 7235973; omega⟩ dL_law_792 rfl (fun k9 I1 L1 H locs hq hP hS => ?_)
  obtain ⟨hR, hO⟩ := op_reverse h hq
  have mf := iMF.of h hR
  refine W.widen (k := cells + 5) (n := slots + 30) (by show cells + 5 ≤ cells + 5; omega) (by show slots + 30 ≤ slots + 30; omega) ?_
  refine lv_istore (lv' := [(5, .int k9), (0, .ref b), (1, .ref (ad 0)), (2, .ref (ad 136)), (3, .ref (ad 135)), (4, .int iv)]) hx hb dL_law_795 hl (by decide) rfl (fun ls hl => ?_)
  refine lv_aload_n hx hb dL_law_797 rfl (lv_at hl 3 rfl) ?_
  refine lv_aload_n hx hb dL_law_798 rfl (lv_at hl 1 rfl) ?_
  refine lv_iload hx hb dL_law_799 (lv_at hl 5 rfl) ?_
  refine lv_iconst (v := 1) hx hb dL_law_801 (by decide) ?_
  refine lv_iadd hx hb dL_law_802 ?_
  refine va_sld hx hb hX hbl hbA hS hj1 dL_law_803 ?_
  refine lv_aload_n hx hb dL_law_804 rfl (lv_at hl 1 rfl) ?_
  refine lv_iload hx hb dL_law_805 (lv_at hl 5 rfl) ?_
  refine lv_iconst (v := 2) hx hb dL_law_807 (by decide) ?_
  refine lv_iadd hx hb dL_law_808 ?_
  refine va_sld hx hb hX hbl hbA hS hj2 dL_law_809 ?_
  refine gM_callVi (As := [.int (xs (iv + 1).toNatClampNeg), .int (xs (iv + 2).toNatClampNeg)]) (rest := []) C hP hS hl.1 (ct_X4_reverse l D cy ad hJ np ne lc (xs (iv + 1).toNatClampNeg) (xs (iv + 2).toNatClampNeg) I1 L1 mf.1 h.np10 mf.2.1 h.ne40 mf.2.2.1 h.lc4 mf.2.2.2.1 (fun e he => vp_mono (mf.2.2.2.2.1 e he) h.np10) mf.2.2.2.2.2.1 mf.2.2.2.2.1) fa_X4_reverse kl_L_118 ki_X4_reverse kse_X4_reverse (by decide) (T := TX4) rfl rfl rfl ⟨Nat.le_of_ble_eq_true rfl, Nat.le_of_ble_eq_true rfl⟩ (Nat.le_of_ble_eq_true rfl) ⟨by show cells + 5 + 0 ≤ 620044; omega, by show slots + 30 + 0 ≤ 7235973; omega⟩ dL_law_810 rfl (fun b9 I2 L2 H locs hm hP hS => ?_)
  obtain ⟨e0, eP, np2, ne2, lc2, h2⟩ := hO b9 I2 L2 hm
  refine W.widen (k := cells + 5) (n := slots + 30) (by show cells + 5 + 0 ≤ cells + 5; omega) (by show slots + 30 + 0 ≤ slots + 30; omega) ?_
  refine lv_istore (lv' := [(6, .int b9), (5, .int k9), (0, .ref b), (1, .ref (ad 0)), (2, .ref (ad 136)), (3, .ref (ad 135)), (4, .int iv)]) hx hb dL_law_813 hl (by decide) rfl (fun ls hl => ?_)
  refine lv_aload_n hx hb dL_law_815 rfl (lv_at hl 4 rfl) ?_
  refine gM_callVi (As := []) (rest := []) C hP hS hl.1 (ct_X4_thrown l D cy ad hJ I2 L2) fa_X4_thrown kl_L_85 ki_X4_thrown kse_X4_thrown (by decide) (T := TX4) rfl rfl rfl ⟨Nat.le_of_ble_eq_true rfl, Nat.le_of_ble_eq_true rfl⟩ (Nat.le_of_ble_eq_true rfl) ⟨by show cells + 5 + 0 ≤ 620044; omega, by show slots + 30 + 0 ≤ 7235973; omega⟩ dL_law_816 rfl (fun t9 I3 L3 H locs ht hP hS => ?_)
  obtain ⟨rfl, rfl, rfl⟩ := ht
  refine W.widen (k := cells + 5) (n := slots + 30) (by show cells + 5 + 0 ≤ cells + 5; omega) (by show slots + 30 + 0 ≤ slots + 30; omega) ?_
  refine lv_iload hx hb dL_law_819 (lv_at hl 1 rfl) ?_
  refine lv_icmp_eq (tgt := 826) hx hb dL_law_821 (by decide) (fun c821 => ?_) (fun c821 => absurd e0 c821)
  refine lv_iload hx hb dL_law_826 (lv_at hl 1 rfl) ?_
  refine lv_if_ne (tgt := 843) hx hb dL_law_828 (by decide) (fun c828 => ?_) (fun c828 => ?_)
  · refine lv_goto (tgt := 1365) hx hb dL_law_843 (by decide) ?_
    exact kk _ _ _ _ _ _ _ _ h2 hP hS (lv_sub hl [2, 3, 4, 5, 6] rfl)
  · refine lv_aload_n hx hb dL_law_831 rfl (lv_at hl 5 rfl) ?_
    refine lv_iconst (v := 0) hx hb dL_law_832 (by decide) ?_
    refine g_lald (v := L2 135 0) C hP 135 1 (by decide) (fun _ _ => rfl) 0 (show (0 : Int32) = nI 0 from rfl) rfl (by omega) (by decide) dL_law_833 ?_
    refine lv_iload hx hb dL_law_834 (lv_at hl 0 rfl) ?_
    refine lv_i2l (v := b9.toInt64) hx hb dL_law_836 rfl ?_
    refine W.lcmp hx hb dL_law_837 ?_
    refine lv_if_eq (tgt := 843) hx hb dL_law_838 (by decide) (fun c838 => ?_) (fun c838 => absurd ((lg_cmp_eq _ _).mpr (eP c828)) c838)
    refine lv_goto (tgt := 1365) hx hb dL_law_843 (by decide) ?_
    exact kk _ _ _ _ _ _ _ _ h2 hP hS (lv_sub hl [2, 3, 4, 5, 6] rfl)
end LW
