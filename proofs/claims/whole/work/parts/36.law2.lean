section LW
variable {p : Program} {l : Launch} {e : Env} {s : State} {m : MethodId} {b : Nat} {below : List Frame} {meth : Method} {c : Code} {H : Heap} {locs : List Loc} {cells slots : Nat} {Q : State → Prop}
variable {D : va_G} {cy : Nat → ClassId} {ad : Nat → Nat} {A : Nat → Prop} {I : MI} {L : ML} {ls : Array Slot} {Ln : Nat} {xs : Nat → Int32} {np ne : Nat} {lc : Nat → Nat} {iv : Int32}
set_option maxRecDepth 100000 in
set_option maxHeartbeats 8000000 in
theorem law_tamper (C : gC p s m #[Value.ref b] meth c cL_law 8 RL D cy ad A) (hJ : gJ ad) (hlf : l.stackTraces = false) (hX : va_X b Ln xs s s.heap) (hbl : b < s.heap.size) (hbA : ¬ A b) (h : Inv np ne lc I L) (hP : gP D cy ad I L H) (hS : va_S A s.heap H locs) (hj1 : vp_in (iv + 1) Ln) (hj2 : vp_in (iv + 2) Ln) (hj3 : vp_in (iv + 3) Ln) (hj4 : vp_in (iv + 4) Ln) (hl : lv_has ls 8 [(0, .ref b), (1, .ref (ad 0)), (2, .ref (ad 136)), (3, .ref (ad 135)), (4, .int iv)]) (hcc : cells + 5 ≤ 620044) (hss : slots + 30 ≤ 7235973)
    (kk : ∀ (np ne : Nat) (lc : Nat → Nat) (I : MI) (L : ML) (H : Heap) (locs : List Loc) (ls : Array Slot), Inv np ne lc I L → gP D cy ad I L H → va_S A s.heap H locs → lv_has ls 8 [(0, .ref b), (1, .ref (ad 0)), (2, .ref (ad 136)), (3, .ref (ad 135)), (4, .int iv)] → W p l e room_1 s m #[Value.ref b] below meth c H locs (cells + 5) (slots + 30) Q (F0 m 1365 ls [])) : W p l e room_1 s m #[Value.ref b] below meth c H locs cells slots Q (F0 m 846 ls []) := by
  have hx := C.hx
  have hb := C.hb
  refine lv_aload_n hx hb dL_law_846 rfl (lv_at hl 1 rfl) ?_
  refine lv_aload_n hx hb dL_law_847 rfl (lv_at hl 0 rfl) ?_
  refine lv_iload hx hb dL_law_848 (lv_at hl 4 rfl) ?_
  refine lv_iconst (v := 1) hx hb dL_law_850 (by decide) ?_
  refine lv_iadd hx hb dL_law_851 ?_
  refine va_sld hx hb hX hbl hbA hS hj1 dL_law_852 ?_
  refine lv_aload_n hx hb dL_law_853 rfl (lv_at hl 0 rfl) ?_
  refine lv_iload hx hb dL_law_854 (lv_at hl 4 rfl) ?_
  refine lv_iconst (v := 2) hx hb dL_law_856 (by decide) ?_
  refine lv_iadd hx hb dL_law_857 ?_
  refine va_sld hx hb hX hbl hbA hS hj2 dL_law_858 ?_
  refine lv_i2l (v := (xs (iv + 2).toNatClampNeg).toInt64) hx hb dL_law_859 rfl ?_
  refine lv_bipush (v := 32) hx hb dL_law_860 (by decide) ?_
  refine lv_lshl (v := ((xs (iv + 2).toNatClampNeg).toInt64) <<< ((32 : Int32).toInt64 &&& 63)) hx hb dL_law_862 rfl ?_
  refine lv_aload_n hx hb dL_law_863 rfl (lv_at hl 0 rfl) ?_
  refine lv_iload hx hb dL_law_864 (lv_at hl 4 rfl) ?_
  refine lv_iconst (v := 3) hx hb dL_law_866 (by decide) ?_
  refine lv_iadd hx hb dL_law_867 ?_
  refine va_sld hx hb hX hbl hbA hS hj3 dL_law_868 ?_
  refine lv_i2l (v := (xs (iv + 3).toNatClampNeg).toInt64) hx hb dL_law_869 rfl ?_
  refine lv_ldc2 (v := 4294967295) hx hb C.hown (C.hts _ kcn_L_101) dL_law_870 ?_
  refine lv_land hx hb dL_law_873 ?_
  refine lv_lor hx hb dL_law_874 ?_
  refine lv_aload_n hx hb dL_law_875 rfl (lv_at hl 3 rfl) ?_
  refine gW_call (As := [.ref (ad 0), .int (xs (iv + 1).toNatClampNeg), .long ((((xs (iv + 2).toNatClampNeg).toInt64) <<< ((32 : Int32).toInt64 &&& 63)) ||| (((xs (iv + 3).toNatClampNeg).toInt64) &&& 4294967295)), .ref (ad 135)]) (rest := []) C hP hS hl.1 (ct_L_tamper l D cy ad hJ hlf (xs (iv + 1).toNatClampNeg) ((((xs (iv + 2).toNatClampNeg).toInt64) <<< ((32 : Int32).toInt64 &&& 63)) ||| (((xs (iv + 3).toNatClampNeg).toInt64) &&& 4294967295)) I L) fw_L_tamper kl_L_119 kst_L_tamper rfl ⟨Nat.le_of_ble_eq_true rfl, Nat.le_of_ble_eq_true rfl⟩ (by decide) ⟨by show cells + 2 ≤ 620044; omega, by show slots + 12 ≤ 7235973; omega⟩ dL_law_876 rfl (fun k9 I1 L1 H locs hq hP hS => ?_)
  obtain ⟨hR, hO⟩ := op_tamper h hq
  have mf := iMF.of h hR
  refine W.widen (k := cells + 5) (n := slots + 30) (by show cells + 2 ≤ cells + 5; omega) (by show slots + 12 ≤ slots + 30; omega) ?_
  refine lv_istore (lv' := [(5, .int k9), (0, .ref b), (1, .ref (ad 0)), (2, .ref (ad 136)), (3, .ref (ad 135)), (4, .int iv)]) hx hb dL_law_879 hl (by decide) rfl (fun ls hl => ?_)
  refine lv_aload_n hx hb dL_law_881 rfl (lv_at hl 3 rfl) ?_
  refine lv_aload_n hx hb dL_law_882 rfl (lv_at hl 1 rfl) ?_
  refine lv_iload hx hb dL_law_883 (lv_at hl 5 rfl) ?_
  refine lv_iconst (v := 1) hx hb dL_law_885 (by decide) ?_
  refine lv_iadd hx hb dL_law_886 ?_
  refine va_sld hx hb hX hbl hbA hS hj1 dL_law_887 ?_
  refine lv_aload_n hx hb dL_law_888 rfl (lv_at hl 1 rfl) ?_
  refine lv_iload hx hb dL_law_889 (lv_at hl 5 rfl) ?_
  refine lv_iconst (v := 2) hx hb dL_law_891 (by decide) ?_
  refine lv_iadd hx hb dL_law_892 ?_
  refine va_sld hx hb hX hbl hbA hS hj2 dL_law_893 ?_
  refine lv_i2l (v := (xs (iv + 2).toNatClampNeg).toInt64) hx hb dL_law_894 rfl ?_
  refine lv_bipush (v := 32) hx hb dL_law_895 (by decide) ?_
  refine lv_lshl (v := ((xs (iv + 2).toNatClampNeg).toInt64) <<< ((32 : Int32).toInt64 &&& 63)) hx hb dL_law_897 rfl ?_
  refine lv_aload_n hx hb dL_law_898 rfl (lv_at hl 1 rfl) ?_
  refine lv_iload hx hb dL_law_899 (lv_at hl 5 rfl) ?_
  refine lv_iconst (v := 3) hx hb dL_law_901 (by decide) ?_
  refine lv_iadd hx hb dL_law_902 ?_
  refine va_sld hx hb hX hbl hbA hS hj3 dL_law_903 ?_
  refine lv_i2l (v := (xs (iv + 3).toNatClampNeg).toInt64) hx hb dL_law_904 rfl ?_
  refine lv_ldc2 (v := 4294967295) hx hb C.hown (C.hts _ kcn_L_101) dL_law_905 ?_
  refine lv_land hx hb dL_law_908 ?_
  refine lv_lor hx hb dL_law_909 ?_
  refine gM_callVl (As := [.int (xs (iv + 1).toNatClampNeg), .long ((((xs (iv + 2).toNatClampNeg).toInt64) <<< ((32 : Int32).toInt64 &&& 63)) ||| (((xs (iv + 3).toNatClampNeg).toInt64) &&& 4294967295))]) (rest := []) C hP hS hl.1 (ct_X4_tamper l D cy ad hJ (xs (iv + 1).toNatClampNeg) ((((xs (iv + 2).toNatClampNeg).toInt64) <<< ((32 : Int32).toInt64 &&& 63)) ||| (((xs (iv + 3).toNatClampNeg).toInt64) &&& 4294967295)) I1 L1) fa_X4_tamper kl_L_122 ki_X4_tamper kse_X4_tamper (by decide) (T := TX4) rfl rfl rfl ⟨Nat.le_of_ble_eq_true rfl, Nat.le_of_ble_eq_true rfl⟩ (Nat.le_of_ble_eq_true rfl) ⟨by show cells + 5 + 0 ≤ 620044; omega, by show slots + 30 + 0 ≤ 7235973; omega⟩ dL_law_910 rfl (fun b9 I2 L2 H locs hm hP hS => ?_)
  obtain ⟨e0, eP, np2, ne2, lc2, h2⟩ := hO b9 I2 L2 hm
  refine W.widen (k := cells + 5) (n := slots + 30) (by show cells + 5 + 0 ≤ cells + 5; omega) (by show slots + 30 + 0 ≤ slots + 30; omega) ?_
  refine lv_lstore (lv' := [(6, .long b9), (5, .int k9), (0, .ref b), (1, .ref (ad 0)), (2, .ref (ad 136)), (3, .ref (ad 135)), (4, .int iv)]) hx hb dL_law_913 hl (by decide) rfl (fun ls hl => ?_)
  refine lv_aload_n hx hb dL_law_915 rfl (lv_at hl 4 rfl) ?_
  refine gM_callVi (As := []) (rest := []) C hP hS hl.1 (ct_X4_thrown l D cy ad hJ I2 L2) fa_X4_thrown kl_L_85 ki_X4_thrown kse_X4_thrown (by decide) (T := TX4) rfl rfl rfl ⟨Nat.le_of_ble_eq_true rfl, Nat.le_of_ble_eq_true rfl⟩ (Nat.le_of_ble_eq_true rfl) ⟨by show cells + 5 + 0 ≤ 620044; omega, by show slots + 30 + 0 ≤ 7235973; omega⟩ dL_law_916 rfl (fun t9 I3 L3 H locs ht hP hS => ?_)
  obtain ⟨rfl, rfl, rfl⟩ := ht
  refine W.widen (k := cells + 5) (n := slots + 30) (by show cells + 5 + 0 ≤ cells + 5; omega) (by show slots + 30 + 0 ≤ slots + 30; omega) ?_
  refine lv_iload hx hb dL_law_919 (lv_at hl 1 rfl) ?_
  refine lv_icmp_eq (tgt := 926) hx hb dL_law_921 (by decide) (fun c921 => ?_) (fun c921 => absurd e0 c921)
  refine lv_iload hx hb dL_law_926 (lv_at hl 1 rfl) ?_
  refine lv_if_ne (tgt := 942) hx hb dL_law_928 (by decide) (fun c928 => ?_) (fun c928 => ?_)
  · refine lv_goto (tgt := 1365) hx hb dL_law_942 (by decide) ?_
    exact kk _ _ _ _ _ _ _ _ h2 hP hS (lv_sub hl [2, 3, 4, 5, 6] rfl)
  · refine lv_aload_n hx hb dL_law_931 rfl (lv_at hl 5 rfl) ?_
    refine lv_iconst (v := 0) hx hb dL_law_932 (by decide) ?_
    refine g_lald (v := L2 135 0) C hP 135 1 (by decide) (fun _ _ => rfl) 0 (show (0 : Int32) = nI 0 from rfl) rfl (by omega) (by decide) dL_law_933 ?_
    refine lv_lload hx hb dL_law_934 (lv_at hl 0 rfl) ?_
    refine W.lcmp hx hb dL_law_936 ?_
    refine lv_if_eq (tgt := 942) hx hb dL_law_937 (by decide) (fun c937 => ?_) (fun c937 => absurd ((lg_cmp_eq _ _).mpr (eP c928)) c937)
    refine lv_goto (tgt := 1365) hx hb dL_law_942 (by decide) ?_
    exact kk _ _ _ _ _ _ _ _ h2 hP hS (lv_sub hl [2, 3, 4, 5, 6] rfl)
set_option maxRecDepth 100000 in
set_option maxHeartbeats 8000000 in
theorem law_sound (C : gC p s m #[Value.ref b] meth c cL_law 8 RL D cy ad A) (hJ : gJ ad) (hlf : l.stackTraces = false) (hX : va_X b Ln xs s s.heap) (hbl : b < s.heap.size) (hbA : ¬ A b) (h : Inv np ne lc I L) (hP : gP D cy ad I L H) (hS : va_S A s.heap H locs) (hj1 : vp_in (iv + 1) Ln) (hj2 : vp_in (iv + 2) Ln) (hj3 : vp_in (iv + 3) Ln) (hj4 : vp_in (iv + 4) Ln) (hl : lv_has ls 8 [(0, .ref b), (1, .ref (ad 0)), (2, .ref (ad 136)), (3, .ref (ad 135)), (4, .int iv)]) (hcc : cells + 5 ≤ 620044) (hss : slots + 30 ≤ 7235973)
    (kk : ∀ (np ne : Nat) (lc : Nat → Nat) (I : MI) (L : ML) (H : Heap) (locs : List Loc) (ls : Array Slot), Inv np ne lc I L → gP D cy ad I L H → va_S A s.heap H locs → lv_has ls 8 [(0, .ref b), (1, .ref (ad 0)), (2, .ref (ad 136)), (3, .ref (ad 135)), (4, .int iv)] → W p l e room_1 s m #[Value.ref b] below meth c H locs (cells + 5) (slots + 30) Q (F0 m 1365 ls [])) : W p l e room_1 s m #[Value.ref b] below meth c H locs cells slots Q (F0 m 945 ls []) := by
  have hx := C.hx
  have hb := C.hb
  refine lv_aload_n hx hb dL_law_945 rfl (lv_at hl 1 rfl) ?_
  refine gM_callVi (As := []) (rest := []) C hP hS hl.1 (ct_X3_sound l D cy ad hJ ne I L h.hne h.ne40) fa_X3_sound kl_L_123 ki_X3_sound kse_X3_sound (by decide) (T := TX3) rfl rfl rfl ⟨Nat.le_of_ble_eq_true rfl, Nat.le_of_ble_eq_true rfl⟩ (Nat.le_of_ble_eq_true rfl) ⟨by show cells + 0 ≤ 620044; omega, by show slots + 0 ≤ 7235973; omega⟩ dL_law_946 rfl (fun k9 I1 L1 H locs hq hP hS => ?_)
  obtain ⟨hR, hO⟩ := op_sound h hq
  have mf := iMF.of h hR
  refine W.widen (k := cells + 5) (n := slots + 30) (by show cells + 0 ≤ cells + 5; omega) (by show slots + 0 ≤ slots + 30; omega) ?_
  refine lv_aload_n hx hb dL_law_949 rfl (lv_at hl 2 rfl) ?_
  refine gM_callVi (As := []) (rest := [.int k9]) C hP hS hl.1 (ct_X4_sound l D cy ad hJ lc ne I1 L1 mf.2.1 h.ne40 mf.2.2.1 h.lc4 mf.2.2.2.1 (fun e he => vp_mono (mf.2.2.2.2.1 e he) h.np10)) fa_X4_sound kl_L_127 ki_X4_sound kse_X4_sound (by decide) (T := TX4) rfl rfl rfl ⟨Nat.le_of_ble_eq_true rfl, Nat.le_of_ble_eq_true rfl⟩ (Nat.le_of_ble_eq_true rfl) ⟨by show cells + 5 + 0 ≤ 620044; omega, by show slots + 30 + 0 ≤ 7235973; omega⟩ dL_law_950 rfl (fun b9 I2 L2 H locs hm hP hS => ?_)
  obtain ⟨e9, h2⟩ := hO b9 I2 L2 hm
  refine W.widen (k := cells + 5) (n := slots + 30) (by show cells + 5 + 0 ≤ cells + 5; omega) (by show slots + 30 + 0 ≤ slots + 30; omega) ?_
  refine lv_icmp_eq (tgt := 1365) hx hb dL_law_953 (by decide) (fun c953 => ?_) (fun c953 => absurd e9.1 c953)
  exact kk _ _ _ _ _ _ _ _ h2 hP hS (lv_sub hl [0, 1, 2, 3, 4] rfl)
set_option maxRecDepth 100000 in
set_option maxHeartbeats 8000000 in
theorem law_restore (C : gC p s m #[Value.ref b] meth c cL_law 8 RL D cy ad A) (hJ : gJ ad) (hlf : l.stackTraces = false) (hX : va_X b Ln xs s s.heap) (hbl : b < s.heap.size) (hbA : ¬ A b) (h : Inv np ne lc I L) (hP : gP D cy ad I L H) (hS : va_S A s.heap H locs) (hj1 : vp_in (iv + 1) Ln) (hj2 : vp_in (iv + 2) Ln) (hj3 : vp_in (iv + 3) Ln) (hj4 : vp_in (iv + 4) Ln) (hl : lv_has ls 8 [(0, .ref b), (1, .ref (ad 0)), (2, .ref (ad 136)), (3, .ref (ad 135)), (4, .int iv)]) (hcc : cells + 5 ≤ 620044) (hss : slots + 30 ≤ 7235973)
    (kk : ∀ (np ne : Nat) (lc : Nat → Nat) (I : MI) (L : ML) (H : Heap) (locs : List Loc) (ls : Array Slot), Inv np ne lc I L → gP D cy ad I L H → va_S A s.heap H locs → lv_has ls 8 [(0, .ref b), (1, .ref (ad 0)), (2, .ref (ad 136)), (3, .ref (ad 135)), (4, .int iv)] → W p l e room_1 s m #[Value.ref b] below meth c H locs (cells + 5) (slots + 30) Q (F0 m 1365 ls [])) : W p l e room_1 s m #[Value.ref b] below meth c H locs cells slots Q (F0 m 958 ls []) := by
  have hx := C.hx
  have hb := C.hb
  refine lv_aload_n hx hb dL_law_958 rfl (lv_at hl 1 rfl) ?_
  refine lv_aload_n hx hb dL_law_959 rfl (lv_at hl 0 rfl) ?_
  refine lv_iload hx hb dL_law_960 (lv_at hl 4 rfl) ?_
  refine lv_iconst (v := 1) hx hb dL_law_962 (by decide) ?_
  refine lv_iadd hx hb dL_law_963 ?_
  refine va_sld hx hb hX hbl hbA hS hj1 dL_law_964 ?_
  refine lv_aload_n hx hb dL_law_965 rfl (lv_at hl 3 rfl) ?_
  refine gW_call (As := [.ref (ad 0), .int (xs (iv + 1).toNatClampNeg), .ref (ad 135)]) (rest := []) C hP hS hl.1 (ct_L_restore l D cy ad hJ hlf ne (xs (iv + 1).toNatClampNeg) I L h.hne h.ne40) fw_L_restore kl_L_128 kst_L_restore rfl ⟨Nat.le_of_ble_eq_true rfl, Nat.le_of_ble_eq_true rfl⟩ (by decide) ⟨by show cells + 2 ≤ 620044; omega, by show slots + 12 ≤ 7235973; omega⟩ dL_law_966 rfl (fun k9 I1 L1 H locs hq hP hS => ?_)
  obtain ⟨hR, hO⟩ := op_restore h hq
  have mf := iMF.of h hR
  refine W.widen (k := cells + 5) (n := slots + 30) (by show cells + 2 ≤ cells + 5; omega) (by show slots + 12 ≤ slots + 30; omega) ?_
  refine lv_istore (lv' := [(5, .int k9), (0, .ref b), (1, .ref (ad 0)), (2, .ref (ad 136)), (3, .ref (ad 135)), (4, .int iv)]) hx hb dL_law_969 hl (by decide) rfl (fun ls hl => ?_)
  refine lv_aload_n hx hb dL_law_971 rfl (lv_at hl 3 rfl) ?_
  refine lv_aload_n hx hb dL_law_972 rfl (lv_at hl 1 rfl) ?_
  refine lv_iload hx hb dL_law_973 (lv_at hl 5 rfl) ?_
  refine lv_iconst (v := 1) hx hb dL_law_975 (by decide) ?_
  refine lv_iadd hx hb dL_law_976 ?_
  refine va_sld hx hb hX hbl hbA hS hj1 dL_law_977 ?_
  refine gM_callVi (As := [.int (xs (iv + 1).toNatClampNeg)]) (rest := []) C hP hS hl.1 (ct_X4_restore l D cy ad hJ lc ne (xs (iv + 1).toNatClampNeg) I1 L1 mf.2.1 h.ne40 mf.2.2.1 h.lc4 mf.2.2.2.1 (fun e he => vp_mono (mf.2.2.2.2.1 e he) h.np10)) fa_X4_restore kl_L_131 ki_X4_restore kse_X4_restore (by decide) (T := TX4) rfl rfl rfl ⟨Nat.le_of_ble_eq_true rfl, Nat.le_of_ble_eq_true rfl⟩ (Nat.le_of_ble_eq_true rfl) ⟨by show cells + 5 + 0 ≤ 620044; omega, by show slots + 30 + 0 ≤ 7235973; omega⟩ dL_law_978 rfl (fun b9 I2 L2 H locs hm hP hS => ?_)
  obtain ⟨e0, eP, np2, ne2, lc2, h2⟩ := hO b9 I2 L2 hm
  refine W.widen (k := cells + 5) (n := slots + 30) (by show cells + 5 + 0 ≤ cells + 5; omega) (by show slots + 30 + 0 ≤ slots + 30; omega) ?_
  refine lv_istore (lv' := [(6, .int b9), (5, .int k9), (0, .ref b), (1, .ref (ad 0)), (2, .ref (ad 136)), (3, .ref (ad 135)), (4, .int iv)]) hx hb dL_law_981 hl (by decide) rfl (fun ls hl => ?_)
  refine lv_aload_n hx hb dL_law_983 rfl (lv_at hl 4 rfl) ?_
  refine gM_callVi (As := []) (rest := []) C hP hS hl.1 (ct_X4_thrown l D cy ad hJ I2 L2) fa_X4_thrown kl_L_85 ki_X4_thrown kse_X4_thrown (by decide) (T := TX4) rfl rfl rfl ⟨Nat.le_of_ble_eq_true rfl, Nat.le_of_ble_eq_true rfl⟩ (Nat.le_of_ble_eq_true rfl) ⟨by show cells + 5 + 0 ≤ 620044; omega, by show slots + 30 + 0 ≤ 7235973; omega⟩ dL_law_984 rfl (fun t9 I3 L3 H locs ht hP hS => ?_)
  obtain ⟨rfl, rfl, rfl⟩ := ht
  refine W.widen (k := cells + 5) (n := slots + 30) (by show cells + 5 + 0 ≤ cells + 5; omega) (by show slots + 30 + 0 ≤ slots + 30; omega) ?_
  refine lv_iload hx hb dL_law_987 (lv_at hl 1 rfl) ?_
  refine lv_icmp_eq (tgt := 994) hx hb dL_law_989 (by decide) (fun c989 => ?_) (fun c989 => absurd e0 c989)
  refine lv_iload hx hb dL_law_994 (lv_at hl 1 rfl) ?_
  refine lv_if_ne (tgt := 1011) hx hb dL_law_996 (by decide) (fun c996 => ?_) (fun c996 => ?_)
  · refine lv_goto (tgt := 1365) hx hb dL_law_1011 (by decide) ?_
    exact kk _ _ _ _ _ _ _ _ h2 hP hS (lv_sub hl [2, 3, 4, 5, 6] rfl)
  · refine lv_aload_n hx hb dL_law_999 rfl (lv_at hl 5 rfl) ?_
    refine lv_iconst (v := 0) hx hb dL_law_1000 (by decide) ?_
    refine g_lald (v := L2 135 0) C hP 135 1 (by decide) (fun _ _ => rfl) 0 (show (0 : Int32) = nI 0 from rfl) rfl (by omega) (by decide) dL_law_1001 ?_
    refine lv_iload hx hb dL_law_1002 (lv_at hl 0 rfl) ?_
    refine lv_i2l (v := b9.toInt64) hx hb dL_law_1004 rfl ?_
    refine W.lcmp hx hb dL_law_1005 ?_
    refine lv_if_eq (tgt := 1011) hx hb dL_law_1006 (by decide) (fun c1006 => ?_) (fun c1006 => absurd ((lg_cmp_eq _ _).mpr (eP c996)) c1006)
    refine lv_goto (tgt := 1365) hx hb dL_law_1011 (by decide) ?_
    exact kk _ _ _ _ _ _ _ _ h2 hP hS (lv_sub hl [2, 3, 4, 5, 6] rfl)
set_option maxRecDepth 100000 in
set_option maxHeartbeats 8000000 in
theorem law_balance (C : gC p s m #[Value.ref b] meth c cL_law 8 RL D cy ad A) (hJ : gJ ad) (hlf : l.stackTraces = false) (hX : va_X b Ln xs s s.heap) (hbl : b < s.heap.size) (hbA : ¬ A b) (h : Inv np ne lc I L) (hP : gP D cy ad I L H) (hS : va_S A s.heap H locs) (hj1 : vp_in (iv + 1) Ln) (hj2 : vp_in (iv + 2) Ln) (hj3 : vp_in (iv + 3) Ln) (hj4 : vp_in (iv + 4) Ln) (hl : lv_has ls 8 [(0, .ref b), (1, .ref (ad 0)), (2, .ref (ad 136)), (3, .ref (ad 135)), (4, .int iv)]) (hcc : cells + 5 ≤ 620044) (hss : slots + 30 ≤ 7235973)
    (kk : ∀ (np ne : Nat) (lc : Nat → Nat) (I : MI) (L : ML) (H : Heap) (locs : List Loc) (ls : Array Slot), Inv np ne lc I L → gP D cy ad I L H → va_S A s.heap H locs → lv_has ls 8 [(0, .ref b), (1, .ref (ad 0)), (2, .ref (ad 136)), (3, .ref (ad 135)), (4, .int iv)] → W p l e room_1 s m #[Value.ref b] below meth c H locs (cells + 5) (slots + 30) Q (F0 m 1365 ls [])) : W p l e room_1 s m #[Value.ref b] below meth c H locs cells slots Q (F0 m 1014 ls []) := by
  have hx := C.hx
  have hb := C.hb
  refine lv_aload_n hx hb dL_law_1014 rfl (lv_at hl 1 rfl) ?_
  refine lv_aload_n hx hb dL_law_1015 rfl (lv_at hl 0 rfl) ?_
  refine lv_iload hx hb dL_law_1016 (lv_at hl 4 rfl) ?_
  refine lv_iconst (v := 1) hx hb dL_law_1018 (by decide) ?_
  refine lv_iadd hx hb dL_law_1019 ?_
  refine va_sld hx hb hX hbl hbA hS hj1 dL_law_1020 ?_
  refine lv_aload_n hx hb dL_law_1021 rfl (lv_at hl 3 rfl) ?_
  refine gW_call (As := [.ref (ad 0), .int (xs (iv + 1).toNatClampNeg), .ref (ad 135)]) (rest := []) C hP hS hl.1 (ct_L_balance l D cy ad hJ hlf (xs (iv + 1).toNatClampNeg) I L) fw_L_balance kl_L_132 kst_L_balance rfl ⟨Nat.le_of_ble_eq_true rfl, Nat.le_of_ble_eq_true rfl⟩ (by decide) ⟨by show cells + 1 ≤ 620044; omega, by show slots + 6 ≤ 7235973; omega⟩ dL_law_1022 rfl (fun k9 I1 L1 H locs hq hP hS => ?_)
  obtain ⟨hR, hO⟩ := op_balance h hq
  have mf := iMF.of h hR
  refine W.widen (k := cells + 5) (n := slots + 30) (by show cells + 1 ≤ cells + 5; omega) (by show slots + 6 ≤ slots + 30; omega) ?_
  refine lv_istore (lv' := [(5, .int k9), (0, .ref b), (1, .ref (ad 0)), (2, .ref (ad 136)), (3, .ref (ad 135)), (4, .int iv)]) hx hb dL_law_1025 hl (by decide) rfl (fun ls hl => ?_)
  refine lv_aload_n hx hb dL_law_1027 rfl (lv_at hl 3 rfl) ?_
  refine lv_aload_n hx hb dL_law_1028 rfl (lv_at hl 1 rfl) ?_
  refine lv_iload hx hb dL_law_1029 (lv_at hl 5 rfl) ?_
  refine lv_iconst (v := 1) hx hb dL_law_1031 (by decide) ?_
  refine lv_iadd hx hb dL_law_1032 ?_
  refine va_sld hx hb hX hbl hbA hS hj1 dL_law_1033 ?_
  refine gM_callVl (As := [.int (xs (iv + 1).toNatClampNeg)]) (rest := []) C hP hS hl.1 (ct_X4_balance l D cy ad hJ (xs (iv + 1).toNatClampNeg) I1 L1) fa_X4_balance kl_L_134 ki_X4_balance kse_X4_balance (by decide) (T := TX4) rfl rfl rfl ⟨Nat.le_of_ble_eq_true rfl, Nat.le_of_ble_eq_true rfl⟩ (Nat.le_of_ble_eq_true rfl) ⟨by show cells + 5 + 0 ≤ 620044; omega, by show slots + 30 + 0 ≤ 7235973; omega⟩ dL_law_1034 rfl (fun b9 I2 L2 H locs hm hP hS => ?_)
  obtain ⟨e0, eP, np2, ne2, lc2, h2⟩ := hO b9 I2 L2 hm
  refine W.widen (k := cells + 5) (n := slots + 30) (by show cells + 5 + 0 ≤ cells + 5; omega) (by show slots + 30 + 0 ≤ slots + 30; omega) ?_
  refine lv_lstore (lv' := [(6, .long b9), (5, .int k9), (0, .ref b), (1, .ref (ad 0)), (2, .ref (ad 136)), (3, .ref (ad 135)), (4, .int iv)]) hx hb dL_law_1037 hl (by decide) rfl (fun ls hl => ?_)
  refine lv_aload_n hx hb dL_law_1039 rfl (lv_at hl 4 rfl) ?_
  refine gM_callVi (As := []) (rest := []) C hP hS hl.1 (ct_X4_thrown l D cy ad hJ I2 L2) fa_X4_thrown kl_L_85 ki_X4_thrown kse_X4_thrown (by decide) (T := TX4) rfl rfl rfl ⟨Nat.le_of_ble_eq_true rfl, Nat.le_of_ble_eq_true rfl⟩ (Nat.le_of_ble_eq_true rfl) ⟨by show cells + 5 + 0 ≤ 620044; omega, by show slots + 30 + 0 ≤ 7235973; omega⟩ dL_law_1040 rfl (fun t9 I3 L3 H locs ht hP hS => ?_)
  obtain ⟨rfl, rfl, rfl⟩ := ht
  refine W.widen (k := cells + 5) (n := slots + 30) (by show cells + 5 + 0 ≤ cells + 5; omega) (by show slots + 30 + 0 ≤ slots + 30; omega) ?_
  refine lv_iload hx hb dL_law_1043 (lv_at hl 1 rfl) ?_
  refine lv_icmp_eq (tgt := 1050) hx hb dL_law_1045 (by decide) (fun c1045 => ?_) (fun c1045 => absurd e0 c1045)
  refine lv_iload hx hb dL_law_1050 (lv_at hl 1 rfl) ?_
  refine lv_if_ne (tgt := 1066) hx hb dL_law_1052 (by decide) (fun c1052 => ?_) (fun c1052 => ?_)
  · refine lv_goto (tgt := 1365) hx hb dL_law_1066 (by decide) ?_
    exact kk _ _ _ _ _ _ _ _ h2 hP hS (lv_sub hl [2, 3, 4, 5, 6] rfl)
  · refine lv_aload_n hx hb dL_law_1055 rfl (lv_at hl 5 rfl) ?_
    refine lv_iconst (v := 0) hx hb dL_law_1056 (by decide) ?_
    refine g_lald (v := L2 135 0) C hP 135 1 (by decide) (fun _ _ => rfl) 0 (show (0 : Int32) = nI 0 from rfl) rfl (by omega) (by decide) dL_law_1057 ?_
    refine lv_lload hx hb dL_law_1058 (lv_at hl 0 rfl) ?_
    refine W.lcmp hx hb dL_law_1060 ?_
    refine lv_if_eq (tgt := 1066) hx hb dL_law_1061 (by decide) (fun c1061 => ?_) (fun c1061 => absurd ((lg_cmp_eq _ _).mpr (eP c1052)) c1061)
    refine lv_goto (tgt := 1365) hx hb dL_law_1066 (by decide) ?_
    exact kk _ _ _ _ _ _ _ _ h2 hP hS (lv_sub hl [2, 3, 4, 5, 6] rfl)
set_option maxRecDepth 100000 in
set_option maxHeartbeats 8000000 in
theorem law_balanceAt (C : gC p s m #[Value.ref b] meth c cL_law 8 RL D cy ad A) (hJ : gJ ad) (hlf : l.stackTraces = false) (hX : va_X b Ln xs s s.heap) (hbl : b < s.heap.size) (hbA : ¬ A b) (h : Inv np ne lc I L) (hP : gP D cy ad I L H) (hS : va_S A s.heap H locs) (hj1 : vp_in (iv + 1) Ln) (hj2 : vp_in (iv + 2) Ln) (hj3 : vp_in (iv + 3) Ln) (hj4 : vp_in (iv + 4) Ln) (hl : lv_has ls 8 [(0, .ref b), (1, .ref (ad 0)), (2, .ref (ad 136)), (3, .ref (ad 135)), (4, .int iv)]) (hcc : cells + 5 ≤ 620044) (hss : slots + 30 ≤ 7235973)
    (kk : ∀ (np ne : Nat) (lc : Nat → Nat) (I : MI) (L : ML) (H : Heap) (locs : List Loc) (ls : Array Slot), Inv np ne lc I L → gP D cy ad I L H → va_S A s.heap H locs → lv_has ls 8 [(0, .ref b), (1, .ref (ad 0)), (2, .ref (ad 136)), (3, .ref (ad 135)), (4, .int iv)] → W p l e room_1 s m #[Value.ref b] below meth c H locs (cells + 5) (slots + 30) Q (F0 m 1365 ls [])) : W p l e room_1 s m #[Value.ref b] below meth c H locs cells slots Q (F0 m 1069 ls []) := by
  have hx := C.hx
  have hb := C.hb
  refine lv_aload_n hx hb dL_law_1069 rfl (lv_at hl 1 rfl) ?_
  refine lv_aload_n hx hb dL_law_1070 rfl (lv_at hl 0 rfl) ?_
  refine lv_iload hx hb dL_law_1071 (lv_at hl 4 rfl) ?_
  refine lv_iconst (v := 1) hx hb dL_law_1073 (by decide) ?_
  refine lv_iadd hx hb dL_law_1074 ?_
  refine va_sld hx hb hX hbl hbA hS hj1 dL_law_1075 ?_
  refine lv_aload_n hx hb dL_law_1076 rfl (lv_at hl 0 rfl) ?_
  refine lv_iload hx hb dL_law_1077 (lv_at hl 4 rfl) ?_
  refine lv_iconst (v := 2) hx hb dL_law_1079 (by decide) ?_
  refine lv_iadd hx hb dL_law_1080 ?_
  refine va_sld hx hb hX hbl hbA hS hj2 dL_law_1081 ?_
  refine lv_aload_n hx hb dL_law_1082 rfl (lv_at hl 3 rfl) ?_
  refine gW_call (As := [.ref (ad 0), .int (xs (iv + 1).toNatClampNeg), .int (xs (iv + 2).toNatClampNeg), .ref (ad 135)]) (rest := []) C hP hS hl.1 (ct_L_balanceAt l D cy ad hJ hlf ne (xs (iv + 1).toNatClampNeg) (xs (iv + 2).toNatClampNeg) I L h.hne h.ne40) fw_L_balanceAt kl_L_135 kst_L_balanceAt rfl ⟨Nat.le_of_ble_eq_true rfl, Nat.le_of_ble_eq_true rfl⟩ (by decide) ⟨by show cells + 2 ≤ 620044; omega, by show slots + 12 ≤ 7235973; omega⟩ dL_law_1083 rfl (fun k9 I1 L1 H locs hq hP hS => ?_)
  obtain ⟨hR, hO⟩ := op_balanceAt h hq
  have mf := iMF.of h hR
  refine W.widen (k := cells + 5) (n := slots + 30) (by show cells + 2 ≤ cells + 5; omega) (by show slots + 12 ≤ slots + 30; omega) ?_
  refine lv_istore (lv' := [(5, .int k9), (0, .ref b), (1, .ref (ad 0)), (2, .ref (ad 136)), (3, .ref (ad 135)), (4, .int iv)]) hx hb dL_law_1086 hl (by decide) rfl (fun ls hl => ?_)
  refine lv_aload_n hx hb dL_law_1088 rfl (lv_at hl 3 rfl) ?_
  refine lv_aload_n hx hb dL_law_1089 rfl (lv_at hl 1 rfl) ?_
  refine lv_iload hx hb dL_law_1090 (lv_at hl 5 rfl) ?_
  refine lv_iconst (v := 1) hx hb dL_law_1092 (by decide) ?_
  refine lv_iadd hx hb dL_law_1093 ?_
  refine va_sld hx hb hX hbl hbA hS hj1 dL_law_1094 ?_
  refine lv_aload_n hx hb dL_law_1095 rfl (lv_at hl 1 rfl) ?_
  refine lv_iload hx hb dL_law_1096 (lv_at hl 5 rfl) ?_
  refine lv_iconst (v := 2) hx hb dL_law_1098 (by decide) ?_
  refine lv_iadd hx hb dL_law_1099 ?_
  refine va_sld hx hb hX hbl hbA hS hj2 dL_law_1100 ?_
  refine gM_callVl (As := [.int (xs (iv + 1).toNatClampNeg), .int (xs (iv + 2).toNatClampNeg)]) (rest := []) C hP hS hl.1 (ct_X4_balanceAt l D cy ad hJ ne lc (xs (iv + 1).toNatClampNeg) (xs (iv + 2).toNatClampNeg) I1 L1 mf.2.1 h.ne40 mf.2.2.1 h.lc4 mf.2.2.2.1 (fun e he => vp_mono (mf.2.2.2.2.1 e he) h.np10)) fa_X4_balanceAt kl_L_137 ki_X4_balanceAt kse_X4_balanceAt (by decide) (T := TX4) rfl rfl rfl ⟨Nat.le_of_ble_eq_true rfl, Nat.le_of_ble_eq_true rfl⟩ (Nat.le_of_ble_eq_true rfl) ⟨by show cells + 5 + 0 ≤ 620044; omega, by show slots + 30 + 0 ≤ 7235973; omega⟩ dL_law_1101 rfl (fun b9 I2 L2 H locs hm hP hS => ?_)
  obtain ⟨e0, eP, np2, ne2, lc2, h2⟩ := hO b9 I2 L2 hm
  refine W.widen (k := cells + 5) (n := slots + 30) (by show cells + 5 + 0 ≤ cells + 5; omega) (by show slots + 30 + 0 ≤ slots + 30; omega) ?_
  refine lv_lstore (lv' := [(6, .long b9), (5, .int k9), (0, .ref b), (1, .ref (ad 0)), (2, .ref (ad 136)), (3, .ref (ad 135)), (4, .int iv)]) hx hb dL_law_1104 hl (by decide) rfl (fun ls hl => ?_)
  refine lv_aload_n hx hb dL_law_1106 rfl (lv_at hl 4 rfl) ?_
  refine gM_callVi (As := []) (rest := []) C hP hS hl.1 (ct_X4_thrown l D cy ad hJ I2 L2) fa_X4_thrown kl_L_85 ki_X4_thrown kse_X4_thrown (by decide) (T := TX4) rfl rfl rfl ⟨Nat.le_of_ble_eq_true rfl, Nat.le_of_ble_eq_true rfl⟩ (Nat.le_of_ble_eq_true rfl) ⟨by show cells + 5 + 0 ≤ 620044; omega, by show slots + 30 + 0 ≤ 7235973; omega⟩ dL_law_1107 rfl (fun t9 I3 L3 H locs ht hP hS => ?_)
  obtain ⟨rfl, rfl, rfl⟩ := ht
  refine W.widen (k := cells + 5) (n := slots + 30) (by show cells + 5 + 0 ≤ cells + 5; omega) (by show slots + 30 + 0 ≤ slots + 30; omega) ?_
  refine lv_iload hx hb dL_law_1110 (lv_at hl 1 rfl) ?_
  refine lv_icmp_eq (tgt := 1117) hx hb dL_law_1112 (by decide) (fun c1112 => ?_) (fun c1112 => absurd e0 c1112)
  refine lv_iload hx hb dL_law_1117 (lv_at hl 1 rfl) ?_
  refine lv_if_ne (tgt := 1133) hx hb dL_law_1119 (by decide) (fun c1119 => ?_) (fun c1119 => ?_)
  · refine lv_goto (tgt := 1365) hx hb dL_law_1133 (by decide) ?_
    exact kk _ _ _ _ _ _ _ _ h2 hP hS (lv_sub hl [2, 3, 4, 5, 6] rfl)
  · refine lv_aload_n hx hb dL_law_1122 rfl (lv_at hl 5 rfl) ?_
    refine lv_iconst (v := 0) hx hb dL_law_1123 (by decide) ?_
    refine g_lald (v := L2 135 0) C hP 135 1 (by decide) (fun _ _ => rfl) 0 (show (0 : Int32) = nI 0 from rfl) rfl (by omega) (by decide) dL_law_1124 ?_
    refine lv_lload hx hb dL_law_1125 (lv_at hl 0 rfl) ?_
    refine W.lcmp hx hb dL_law_1127 ?_
    refine lv_if_eq (tgt := 1133) hx hb dL_law_1128 (by decide) (fun c1128 => ?_) (fun c1128 => absurd ((lg_cmp_eq _ _).mpr (eP c1119)) c1128)
    refine lv_goto (tgt := 1365) hx hb dL_law_1133 (by decide) ?_
    exact kk _ _ _ _ _ _ _ _ h2 hP hS (lv_sub hl [2, 3, 4, 5, 6] rfl)
set_option maxRecDepth 100000 in
set_option maxHeartbeats 8000000 in
theorem law_entries (C : gC p s m #[Value.ref b] meth c cL_law 8 RL D cy ad A) (hJ : gJ ad) (hlf : l.stackTraces = false) (hX : va_X b Ln xs s s.heap) (hbl : b < s.heap.size) (hbA : ¬ A b) (h : Inv np ne lc I L) (hP : gP D cy ad I L H) (hS : va_S A s.heap H locs) (hj1 : vp_in (iv + 1) Ln) (hj2 : vp_in (iv + 2) Ln) (hj3 : vp_in (iv + 3) Ln) (hj4 : vp_in (iv + 4) Ln) (hl : lv_has ls 8 [(0, .ref b), (1, .ref (ad 0)), (2, .ref (ad 136)), (3, .ref (ad 135)), (4, .int iv)]) (hcc : cells + 5 ≤ 620044) (hss : slots + 30 ≤ 7235973)
    (kk : ∀ (np ne : Nat) (lc : Nat → Nat) (I : MI) (L : ML) (H : Heap) (locs : List Loc) (ls : Array Slot), Inv np ne lc I L → gP D cy ad I L H → va_S A s.heap H locs → lv_has ls 8 [(0, .ref b), (1, .ref (ad 0)), (2, .ref (ad 136)), (3, .ref (ad 135)), (4, .int iv)] → W p l e room_1 s m #[Value.ref b] below meth c H locs (cells + 5) (slots + 30) Q (F0 m 1365 ls [])) : W p l e room_1 s m #[Value.ref b] below meth c H locs cells slots Q (F0 m 1136 ls []) := by
  have hx := C.hx
  have hb := C.hb
  refine lv_aload_n hx hb dL_law_1136 rfl (lv_at hl 1 rfl) ?_
  refine gM_callVi (As := []) (rest := []) C hP hS hl.1 (ct_X3_entries l D cy ad hJ ne I L h.hne h.ne40) fa_X3_entries kl_L_138 ki_X3_entries kse_X3_entries (by decide) (T := TX3) rfl rfl rfl ⟨Nat.le_of_ble_eq_true rfl, Nat.le_of_ble_eq_true rfl⟩ (Nat.le_of_ble_eq_true rfl) ⟨by show cells + 0 ≤ 620044; omega, by show slots + 0 ≤ 7235973; omega⟩ dL_law_1137 rfl (fun k9 I1 L1 H locs hq hP hS => ?_)
  obtain ⟨hR, hO⟩ := op_entries h hq
  have mf := iMF.of h hR
  refine W.widen (k := cells + 5) (n := slots + 30) (by show cells + 0 ≤ cells + 5; omega) (by show slots + 0 ≤ slots + 30; omega) ?_
  refine lv_aload_n hx hb dL_law_1140 rfl (lv_at hl 2 rfl) ?_
  refine gM_callVi (As := []) (rest := [.int k9]) C hP hS hl.1 (ct_X4_entries l D cy ad hJ ne I1 L1 mf.2.1 h.ne40) fa_X4_entries kl_L_141 ki_X4_entries kse_X4_entries (by decide) (T := TX4) rfl rfl rfl ⟨Nat.le_of_ble_eq_true rfl, Nat.le_of_ble_eq_true rfl⟩ (Nat.le_of_ble_eq_true rfl) ⟨by show cells + 5 + 0 ≤ 620044; omega, by show slots + 30 + 0 ≤ 7235973; omega⟩ dL_law_1141 rfl (fun b9 I2 L2 H locs hm hP hS => ?_)
  obtain ⟨e9, h2⟩ := hO b9 I2 L2 hm
  refine W.widen (k := cells + 5) (n := slots + 30) (by show cells + 5 + 0 ≤ cells + 5; omega) (by show slots + 30 + 0 ≤ slots + 30; omega) ?_
  refine lv_icmp_eq (tgt := 1365) hx hb dL_law_1144 (by decide) (fun c1144 => ?_) (fun c1144 => absurd e9 c1144)
  exact kk _ _ _ _ _ _ _ _ h2 hP hS (lv_sub hl [0, 1, 2, 3, 4] rfl)
set_option maxRecDepth 100000 in
set_option maxHeartbeats 8000000 in
theorem law_entry (C : gC p s m #[Value.ref b] meth c cL_law 8 RL D cy ad A) (hJ : gJ ad) (hlf : l.stackTraces = false) (hX : va_X b Ln xs s s.heap) (hbl : b < s.heap.size) (hbA : ¬ A b) (h : Inv np ne lc I L) (hP : gP D cy ad I L H) (hS : va_S A s.heap H locs) (hj1 : vp_in (iv + 1) Ln) (hj2 : vp_in (iv + 2) Ln) (hj3 : vp_in (iv + 3) Ln) (hj4 : vp_in (iv + 4) Ln) (hl : lv_has ls 8 [(0, .ref b), (1, .ref (ad 0)), (2, .ref (ad 136)), (3, .ref (ad 135)), (4, .int iv)]) (hcc : cells + 5 ≤ 620044) (hss : slots + 30 ≤ 7235973)
    (kk : ∀ (np ne : Nat) (lc : Nat → Nat) (I : MI) (L : ML) (H : Heap) (locs : List Loc) (ls : Array Slot), Inv np ne lc I L → gP D cy ad I L H → va_S A s.heap H locs → lv_has ls 8 [(0, .ref b), (1, .ref (ad 0)), (2, .ref (ad 136)), (3, .ref (ad 135)), (4, .int iv)] → W p l e room_1 s m #[Value.ref b] below meth c H locs (cells + 5) (slots + 30) Q (F0 m 1365 ls [])) : W p l e room_1 s m #[Value.ref b] below meth c H locs cells slots Q (F0 m 1149 ls []) := by
  have hx := C.hx
  have hb := C.hb
  refine lv_aload_n hx hb dL_law_1149 rfl (lv_at hl 1 rfl) ?_
  refine lv_aload_n hx hb dL_law_1150 rfl (lv_at hl 0 rfl) ?_
  refine lv_iload hx hb dL_law_1151 (lv_at hl 4 rfl) ?_
  refine lv_iconst (v := 1) hx hb dL_law_1153 (by decide) ?_
  refine lv_iadd hx hb dL_law_1154 ?_
  refine va_sld hx hb hX hbl hbA hS hj1 dL_law_1155 ?_
  refine lv_aload_n hx hb dL_law_1156 rfl (lv_at hl 0 rfl) ?_
  refine lv_iload hx hb dL_law_1157 (lv_at hl 4 rfl) ?_
  refine lv_iconst (v := 2) hx hb dL_law_1159 (by decide) ?_
  refine lv_iadd hx hb dL_law_1160 ?_
  refine va_sld hx hb hX hbl hbA hS hj2 dL_law_1161 ?_
  refine lv_aload_n hx hb dL_law_1162 rfl (lv_at hl 3 rfl) ?_
  refine gW_call (As := [.ref (ad 0), .int (xs (iv + 1).toNatClampNeg), .int (xs (iv + 2).toNatClampNeg), .ref (ad 135)]) (rest := []) C hP hS hl.1 (ct_L_entry l D cy ad hJ hlf ne (xs (iv + 1).toNatClampNeg) (xs (iv + 2).toNatClampNeg) I L h.hne h.ne40) fw_L_entry kl_L_142 kst_L_entry rfl ⟨Nat.le_of_ble_eq_true rfl, Nat.le_of_ble_eq_true rfl⟩ (by decide) ⟨by show cells + 2 ≤ 620044; omega, by show slots + 12 ≤ 7235973; omega⟩ dL_law_1163 rfl (fun k9 I1 L1 H locs hq hP hS => ?_)
  obtain ⟨hR, hO⟩ := op_entry h hq
  have mf := iMF.of h hR
  refine W.widen (k := cells + 5) (n := slots + 30) (by show cells + 2 ≤ cells + 5; omega) (by show slots + 12 ≤ slots + 30; omega) ?_
  refine lv_istore (lv' := [(5, .int k9), (0, .ref b), (1, .ref (ad 0)), (2, .ref (ad 136)), (3, .ref (ad 135)), (4, .int iv)]) hx hb dL_law_1166 hl (by decide) rfl (fun ls hl => ?_)
  refine lv_aload_n hx hb dL_law_1168 rfl (lv_at hl 3 rfl) ?_
  refine lv_aload_n hx hb dL_law_1169 rfl (lv_at hl 1 rfl) ?_
  refine lv_iload hx hb dL_law_1170 (lv_at hl 5 rfl) ?_
  refine lv_iconst (v := 1) hx hb dL_law_1172 (by decide) ?_
  refine lv_iadd hx hb dL_law_1173 ?_
  refine va_sld hx hb hX hbl hbA hS hj1 dL_law_1174 ?_
  refine lv_aload_n hx hb dL_law_1175 rfl (lv_at hl 1 rfl) ?_
  refine lv_iload hx hb dL_law_1176 (lv_at hl 5 rfl) ?_
  refine lv_iconst (v := 2) hx hb dL_law_1178 (by decide) ?_
  refine lv_iadd hx hb dL_law_1179 ?_
  refine va_sld hx hb hX hbl hbA hS hj2 dL_law_1180 ?_
  refine gM_callVi (As := [.int (xs (iv + 1).toNatClampNeg), .int (xs (iv + 2).toNatClampNeg)]) (rest := []) C hP hS hl.1 (ct_X4_entry l D cy ad hJ ne (xs (iv + 1).toNatClampNeg) (xs (iv + 2).toNatClampNeg) I1 L1 mf.2.1 h.ne40) fa_X4_entry kl_L_144 ki_X4_entry kse_X4_entry (by decide) (T := TX4) rfl rfl rfl ⟨Nat.le_of_ble_eq_true rfl, Nat.le_of_ble_eq_true rfl⟩ (Nat.le_of_ble_eq_true rfl) ⟨by show cells + 5 + 0 ≤ 620044; omega, by show slots + 30 + 0 ≤ 7235973; omega⟩ dL_law_1181 rfl (fun b9 I2 L2 H locs hm hP hS => ?_)
  obtain ⟨e0, eP, np2, ne2, lc2, h2⟩ := hO b9 I2 L2 hm
  refine W.widen (k := cells + 5) (n := slots + 30) (by show cells + 5 + 0 ≤ cells + 5; omega) (by show slots + 30 + 0 ≤ slots + 30; omega) ?_
  refine lv_istore (lv' := [(6, .int b9), (5, .int k9), (0, .ref b), (1, .ref (ad 0)), (2, .ref (ad 136)), (3, .ref (ad 135)), (4, .int iv)]) hx hb dL_law_1184 hl (by decide) rfl (fun ls hl => ?_)
  refine lv_aload_n hx hb dL_law_1186 rfl (lv_at hl 4 rfl) ?_
  refine gM_callVi (As := []) (rest := []) C hP hS hl.1 (ct_X4_thrown l D cy ad hJ I2 L2) fa_X4_thrown kl_L_85 ki_X4_thrown kse_X4_thrown (by decide) (T := TX4) rfl rfl rfl ⟨Nat.le_of_ble_eq_true rfl, Nat.le_of_ble_eq_true rfl⟩ (Nat.le_of_ble_eq_true rfl) ⟨by show cells + 5 + 0 ≤ 620044; omega, by show slots + 30 + 0 ≤ 7235973; omega⟩ dL_law_1187 rfl (fun t9 I3 L3 H locs ht hP hS => ?_)
  obtain ⟨rfl, rfl, rfl⟩ := ht
  refine W.widen (k := cells + 5) (n := slots + 30) (by show cells + 5 + 0 ≤ cells + 5; omega) (by show slots + 30 + 0 ≤ slots + 30; omega) ?_
  refine lv_iload hx hb dL_law_1190 (lv_at hl 1 rfl) ?_
  refine lv_icmp_eq (tgt := 1197) hx hb dL_law_1192 (by decide) (fun c1192 => ?_) (fun c1192 => absurd e0 c1192)
  refine lv_iload hx hb dL_law_1197 (lv_at hl 1 rfl) ?_
  refine lv_if_ne (tgt := 1214) hx hb dL_law_1199 (by decide) (fun c1199 => ?_) (fun c1199 => ?_)
  · refine lv_goto (tgt := 1365) hx hb dL_law_1214 (by decide) ?_
    exact kk _ _ _ _ _ _ _ _ h2 hP hS (lv_sub hl [2, 3, 4, 5, 6] rfl)
  · refine lv_aload_n hx hb dL_law_1202 rfl (lv_at hl 5 rfl) ?_
    refine lv_iconst (v := 0) hx hb dL_law_1203 (by decide) ?_
    refine g_lald (v := L2 135 0) C hP 135 1 (by decide) (fun _ _ => rfl) 0 (show (0 : Int32) = nI 0 from rfl) rfl (by omega) (by decide) dL_law_1204 ?_
    refine lv_iload hx hb dL_law_1205 (lv_at hl 0 rfl) ?_
    refine lv_i2l (v := b9.toInt64) hx hb dL_law_1207 rfl ?_
    refine W.lcmp hx hb dL_law_1208 ?_
    refine lv_if_eq (tgt := 1214) hx hb dL_law_1209 (by decide) (fun c1209 => ?_) (fun c1209 => absurd ((lg_cmp_eq _ _).mpr (eP c1199)) c1209)
    refine lv_goto (tgt := 1365) hx hb dL_law_1214 (by decide) ?_
    exact kk _ _ _ _ _ _ _ _ h2 hP hS (lv_sub hl [2, 3, 4, 5, 6] rfl)
set_option maxRecDepth 100000 in
set_option maxHeartbeats 8000000 in
theorem law_amount (C : gC p s m #[Value.ref b] meth c cL_law 8 RL D cy ad A) (hJ : gJ ad) (hlf : l.stackTraces = false) (hX : va_X b Ln xs s s.heap) (hbl : b < s.heap.size) (hbA : ¬ A b) (h : Inv np ne lc I L) (hP : gP D cy ad I L H) (hS : va_S A s.heap H locs) (hj1 : vp_in (iv + 1) Ln) (hj2 : vp_in (iv + 2) Ln) (hj3 : vp_in (iv + 3) Ln) (hj4 : vp_in (iv + 4) Ln) (hl : lv_has ls 8 [(0, .ref b), (1, .ref (ad 0)), (2, .ref (ad 136)), (3, .ref (ad 135)), (4, .int iv)]) (hcc : cells + 5 ≤ 620044) (hss : slots + 30 ≤ 7235973)
    (kk : ∀ (np ne : Nat) (lc : Nat → Nat) (I : MI) (L : ML) (H : Heap) (locs : List Loc) (ls : Array Slot), Inv np ne lc I L → gP D cy ad I L H → va_S A s.heap H locs → lv_has ls 8 [(0, .ref b), (1, .ref (ad 0)), (2, .ref (ad 136)), (3, .ref (ad 135)), (4, .int iv)] → W p l e room_1 s m #[Value.ref b] below meth c H locs (cells + 5) (slots + 30) Q (F0 m 1365 ls [])) : W p l e room_1 s m #[Value.ref b] below meth c H locs cells slots Q (F0 m 1217 ls []) := by
  have hx := C.hx
  have hb := C.hb
  refine lv_aload_n hx hb dL_law_1217 rfl (lv_at hl 1 rfl) ?_
  refine lv_aload_n hx hb dL_law_1218 rfl (lv_at hl 0 rfl) ?_
  refine lv_iload hx hb dL_law_1219 (lv_at hl 4 rfl) ?_
  refine lv_iconst (v := 1) hx hb dL_law_1221 (by decide) ?_
  refine lv_iadd hx hb dL_law_1222 ?_
  refine va_sld hx hb hX hbl hbA hS hj1 dL_law_1223 ?_
  refine lv_aload_n hx hb dL_law_1224 rfl (lv_at hl 3 rfl) ?_
  refine gW_call (As := [.ref (ad 0), .int (xs (iv + 1).toNatClampNeg), .ref (ad 135)]) (rest := []) C hP hS hl.1 (ct_L_amount l D cy ad hJ hlf ne (xs (iv + 1).toNatClampNeg) I L h.hne h.ne40) fw_L_amount kl_L_145 kst_L_amount rfl ⟨Nat.le_of_ble_eq_true rfl, Nat.le_of_ble_eq_true rfl⟩ (by decide) ⟨by show cells + 1 ≤ 620044; omega, by show slots + 6 ≤ 7235973; omega⟩ dL_law_1225 rfl (fun k9 I1 L1 H locs hq hP hS => ?_)
  obtain ⟨hR, hO⟩ := op_amount h hq
  have mf := iMF.of h hR
  refine W.widen (k := cells + 5) (n := slots + 30) (by show cells + 1 ≤ cells + 5; omega) (by show slots + 6 ≤ slots + 30; omega) ?_
  refine lv_istore (lv' := [(5, .int k9), (0, .ref b), (1, .ref (ad 0)), (2, .ref (ad 136)), (3, .ref (ad 135)), (4, .int iv)]) hx hb dL_law_1228 hl (by decide) rfl (fun ls hl => ?_)
  refine lv_aload_n hx hb dL_law_1230 rfl (lv_at hl 3 rfl) ?_
  refine lv_aload_n hx hb dL_law_1231 rfl (lv_at hl 1 rfl) ?_
  refine lv_iload hx hb dL_law_1232 (lv_at hl 5 rfl) ?_
  refine lv_iconst (v := 1) hx hb dL_law_1234 (by decide) ?_
  refine lv_iadd hx hb dL_law_1235 ?_
  refine va_sld hx hb hX hbl hbA hS hj1 dL_law_1236 ?_
  refine gM_callVl (As := [.int (xs (iv + 1).toNatClampNeg)]) (rest := []) C hP hS hl.1 (ct_X4_amount l D cy ad hJ ne (xs (iv + 1).toNatClampNeg) I1 L1 mf.2.1 h.ne40) fa_X4_amount kl_L_147 ki_X4_amount kse_X4_amount (by decide) (T := TX4) rfl rfl rfl ⟨Nat.le_of_ble_eq_true rfl, Nat.le_of_ble_eq_true rfl⟩ (Nat.le_of_ble_eq_true rfl) ⟨by show cells + 5 + 0 ≤ 620044; omega, by show slots + 30 + 0 ≤ 7235973; omega⟩ dL_law_1237 rfl (fun b9 I2 L2 H locs hm hP hS => ?_)
  obtain ⟨e0, eP, np2, ne2, lc2, h2⟩ := hO b9 I2 L2 hm
  refine W.widen (k := cells + 5) (n := slots + 30) (by show cells + 5 + 0 ≤ cells + 5; omega) (by show slots + 30 + 0 ≤ slots + 30; omega) ?_
  refine lv_lstore (lv' := [(6, .long b9), (5, .int k9), (0, .ref b), (1, .ref (ad 0)), (2, .ref (ad 136)), (3, .ref (ad 135)), (4, .int iv)]) hx hb dL_law_1240 hl (by decide) rfl (fun ls hl => ?_)
  refine lv_aload_n hx hb dL_law_1242 rfl (lv_at hl 4 rfl) ?_
  refine gM_callVi (As := []) (rest := []) C hP hS hl.1 (ct_X4_thrown l D cy ad hJ I2 L2) fa_X4_thrown kl_L_85 ki_X4_thrown kse_X4_thrown (by decide) (T := TX4) rfl rfl rfl ⟨Nat.le_of_ble_eq_true rfl, Nat.le_of_ble_eq_true rfl⟩ (Nat.le_of_ble_eq_true rfl) ⟨by show cells + 5 + 0 ≤ 620044; omega, by show slots + 30 + 0 ≤ 7235973; omega⟩ dL_law_1243 rfl (fun t9 I3 L3 H locs ht hP hS => ?_)
  obtain ⟨rfl, rfl, rfl⟩ := ht
  refine W.widen (k := cells + 5) (n := slots + 30) (by show cells + 5 + 0 ≤ cells + 5; omega) (by show slots + 30 + 0 ≤ slots + 30; omega) ?_
  refine lv_iload hx hb dL_law_1246 (lv_at hl 1 rfl) ?_
  refine lv_icmp_eq (tgt := 1253) hx hb dL_law_1248 (by decide) (fun c1248 => ?_) (fun c1248 => absurd e0 c1248)
  refine lv_iload hx hb dL_law_1253 (lv_at hl 1 rfl) ?_
  refine lv_if_ne (tgt := 1269) hx hb dL_law_1255 (by decide) (fun c1255 => ?_) (fun c1255 => ?_)
  · refine lv_goto (tgt := 1365) hx hb dL_law_1269 (by decide) ?_
    exact kk _ _ _ _ _ _ _ _ h2 hP hS (lv_sub hl [2, 3, 4, 5, 6] rfl)
  · refine lv_aload_n hx hb dL_law_1258 rfl (lv_at hl 5 rfl) ?_
    refine lv_iconst (v := 0) hx hb dL_law_1259 (by decide) ?_
    refine g_lald (v := L2 135 0) C hP 135 1 (by decide) (fun _ _ => rfl) 0 (show (0 : Int32) = nI 0 from rfl) rfl (by omega) (by decide) dL_law_1260 ?_
    refine lv_lload hx hb dL_law_1261 (lv_at hl 0 rfl) ?_
    refine W.lcmp hx hb dL_law_1263 ?_
    refine lv_if_eq (tgt := 1269) hx hb dL_law_1264 (by decide) (fun c1264 => ?_) (fun c1264 => absurd ((lg_cmp_eq _ _).mpr (eP c1255)) c1264)
    refine lv_goto (tgt := 1365) hx hb dL_law_1269 (by decide) ?_
    exact kk _ _ _ _ _ _ _ _ h2 hP hS (lv_sub hl [2, 3, 4, 5, 6] rfl)
set_option maxRecDepth 100000 in
set_option maxHeartbeats 8000000 in
theorem law_requested (C : gC p s m #[Value.ref b] meth c cL_law 8 RL D cy ad A) (hJ : gJ ad) (hlf : l.stackTraces = false) (hX : va_X b Ln xs s s.heap) (hbl : b < s.heap.size) (hbA : ¬ A b) (h : Inv np ne lc I L) (hP : gP D cy ad I L H) (hS : va_S A s.heap H locs) (hj1 : vp_in (iv + 1) Ln) (hj2 : vp_in (iv + 2) Ln) (hj3 : vp_in (iv + 3) Ln) (hj4 : vp_in (iv + 4) Ln) (hl : lv_has ls 8 [(0, .ref b), (1, .ref (ad 0)), (2, .ref (ad 136)), (3, .ref (ad 135)), (4, .int iv)]) (hcc : cells + 5 ≤ 620044) (hss : slots + 30 ≤ 7235973)
    (kk : ∀ (np ne : Nat) (lc : Nat → Nat) (I : MI) (L : ML) (H : Heap) (locs : List Loc) (ls : Array Slot), Inv np ne lc I L → gP D cy ad I L H → va_S A s.heap H locs → lv_has ls 8 [(0, .ref b), (1, .ref (ad 0)), (2, .ref (ad 136)), (3, .ref (ad 135)), (4, .int iv)] → W p l e room_1 s m #[Value.ref b] below meth c H locs (cells + 5) (slots + 30) Q (F0 m 1365 ls [])) : W p l e room_1 s m #[Value.ref b] below meth c H locs cells slots Q (F0 m 1272 ls []) := by
  have hx := C.hx
  have hb := C.hb
  refine lv_aload_n hx hb dL_law_1272 rfl (lv_at hl 1 rfl) ?_
  refine lv_aload_n hx hb dL_law_1273 rfl (lv_at hl 0 rfl) ?_
  refine lv_iload hx hb dL_law_1274 (lv_at hl 4 rfl) ?_
  refine lv_iconst (v := 1) hx hb dL_law_1276 (by decide) ?_
  refine lv_iadd hx hb dL_law_1277 ?_
  refine va_sld hx hb hX hbl hbA hS hj1 dL_law_1278 ?_
  refine lv_aload_n hx hb dL_law_1279 rfl (lv_at hl 3 rfl) ?_
  refine gW_call (As := [.ref (ad 0), .int (xs (iv + 1).toNatClampNeg), .ref (ad 135)]) (rest := []) C hP hS hl.1 (ct_L_requested l D cy ad hJ hlf (xs (iv + 1).toNatClampNeg) I L) fw_L_requested kl_L_148 kst_L_requested rfl ⟨Nat.le_of_ble_eq_true rfl, Nat.le_of_ble_eq_true rfl⟩ (by decide) ⟨by show cells + 1 ≤ 620044; omega, by show slots + 6 ≤ 7235973; omega⟩ dL_law_1280 rfl (fun k9 I1 L1 H locs hq hP hS => ?_)
  obtain ⟨hR, hO⟩ := op_requested h hq
  have mf := iMF.of h hR
  refine W.widen (k := cells + 5) (n := slots + 30) (by show cells + 1 ≤ cells + 5; omega) (by show slots + 6 ≤ slots + 30; omega) ?_
  refine lv_istore (lv' := [(5, .int k9), (0, .ref b), (1, .ref (ad 0)), (2, .ref (ad 136)), (3, .ref (ad 135)), (4, .int iv)]) hx hb dL_law_1283 hl (by decide) rfl (fun ls hl => ?_)
  refine lv_aload_n hx hb dL_law_1285 rfl (lv_at hl 3 rfl) ?_
  refine lv_aload_n hx hb dL_law_1286 rfl (lv_at hl 1 rfl) ?_
  refine lv_iload hx hb dL_law_1287 (lv_at hl 5 rfl) ?_
  refine lv_iconst (v := 1) hx hb dL_law_1289 (by decide) ?_
  refine lv_iadd hx hb dL_law_1290 ?_
  refine va_sld hx hb hX hbl hbA hS hj1 dL_law_1291 ?_
  refine gM_callVi (As := [.int (xs (iv + 1).toNatClampNeg)]) (rest := []) C hP hS hl.1 (ct_X4_requested l D cy ad hJ (xs (iv + 1).toNatClampNeg) I1 L1) fa_X4_requested kl_L_150 ki_X4_requested kse_X4_requested (by decide) (T := TX4) rfl rfl rfl ⟨Nat.le_of_ble_eq_true rfl, Nat.le_of_ble_eq_true rfl⟩ (Nat.le_of_ble_eq_true rfl) ⟨by show cells + 5 + 0 ≤ 620044; omega, by show slots + 30 + 0 ≤ 7235973; omega⟩ dL_law_1292 rfl (fun b9 I2 L2 H locs hm hP hS => ?_)
  obtain ⟨e0, eP, np2, ne2, lc2, h2⟩ := hO b9 I2 L2 hm
  refine W.widen (k := cells + 5) (n := slots + 30) (by show cells + 5 + 0 ≤ cells + 5; omega) (by show slots + 30 + 0 ≤ slots + 30; omega) ?_
  refine lv_istore (lv' := [(6, .int b9), (5, .int k9), (0, .ref b), (1, .ref (ad 0)), (2, .ref (ad 136)), (3, .ref (ad 135)), (4, .int iv)]) hx hb dL_law_1295 hl (by decide) rfl (fun ls hl => ?_)
  refine lv_aload_n hx hb dL_law_1297 rfl (lv_at hl 4 rfl) ?_
  refine gM_callVi (As := []) (rest := []) C hP hS hl.1 (ct_X4_thrown l D cy ad hJ I2 L2) fa_X4_thrown kl_L_85 ki_X4_thrown kse_X4_thrown (by decide) (T := TX4) rfl rfl rfl ⟨Nat.le_of_ble_eq_true rfl, Nat.le_of_ble_eq_true rfl⟩ (Nat.le_of_ble_eq_true rfl) ⟨by show cells + 5 + 0 ≤ 620044; omega, by show slots + 30 + 0 ≤ 7235973; omega⟩ dL_law_1298 rfl (fun t9 I3 L3 H locs ht hP hS => ?_)
  obtain ⟨rfl, rfl, rfl⟩ := ht
  refine W.widen (k := cells + 5) (n := slots + 30) (by show cells + 5 + 0 ≤ cells + 5; omega) (by show slots + 30 + 0 ≤ slots + 30; omega) ?_
  refine lv_iload hx hb dL_law_1301 (lv_at hl 1 rfl) ?_
  refine lv_icmp_eq (tgt := 1308) hx hb dL_law_1303 (by decide) (fun c1303 => ?_) (fun c1303 => absurd e0 c1303)
  refine lv_iload hx hb dL_law_1308 (lv_at hl 1 rfl) ?_
  refine lv_if_ne (tgt := 1325) hx hb dL_law_1310 (by decide) (fun c1310 => ?_) (fun c1310 => ?_)
  · refine lv_goto (tgt := 1365) hx hb dL_law_1325 (by decide) ?_
    exact kk _ _ _ _ _ _ _ _ h2 hP hS (lv_sub hl [2, 3, 4, 5, 6] rfl)
  · refine lv_aload_n hx hb dL_law_1313 rfl (lv_at hl 5 rfl) ?_
    refine lv_iconst (v := 0) hx hb dL_law_1314 (by decide) ?_
    refine g_lald (v := L2 135 0) C hP 135 1 (by decide) (fun _ _ => rfl) 0 (show (0 : Int32) = nI 0 from rfl) rfl (by omega) (by decide) dL_law_1315 ?_
    refine lv_iload hx hb dL_law_1316 (lv_at hl 0 rfl) ?_
    refine lv_i2l (v := b9.toInt64) hx hb dL_law_1318 rfl ?_
    refine W.lcmp hx hb dL_law_1319 ?_
    refine lv_if_eq (tgt := 1325) hx hb dL_law_1320 (by decide) (fun c1320 => ?_) (fun c1320 => absurd ((lg_cmp_eq _ _).mpr (eP c1310)) c1320)
    refine lv_goto (tgt := 1365) hx hb dL_law_1325 (by decide) ?_
    exact kk _ _ _ _ _ _ _ _ h2 hP hS (lv_sub hl [2, 3, 4, 5, 6] rfl)
set_option maxRecDepth 100000 in
set_option maxHeartbeats 8000000 in
theorem law_mayRun (C : gC p s m #[Value.ref b] meth c cL_law 8 RL D cy ad A) (hJ : gJ ad) (hlf : l.stackTraces = false) (hX : va_X b Ln xs s s.heap) (hbl : b < s.heap.size) (hbA : ¬ A b) (h : Inv np ne lc I L) (hP : gP D cy ad I L H) (hS : va_S A s.heap H locs) (hj1 : vp_in (iv + 1) Ln) (hj2 : vp_in (iv + 2) Ln) (hj3 : vp_in (iv + 3) Ln) (hj4 : vp_in (iv + 4) Ln) (hl : lv_has ls 8 [(0, .ref b), (1, .ref (ad 0)), (2, .ref (ad 136)), (3, .ref (ad 135)), (4, .int iv)]) (hcc : cells + 5 ≤ 620044) (hss : slots + 30 ≤ 7235973)
    (kk : ∀ (np ne : Nat) (lc : Nat → Nat) (I : MI) (L : ML) (H : Heap) (locs : List Loc) (ls : Array Slot), Inv np ne lc I L → gP D cy ad I L H → va_S A s.heap H locs → lv_has ls 8 [(0, .ref b), (1, .ref (ad 0)), (2, .ref (ad 136)), (3, .ref (ad 135)), (4, .int iv)] → W p l e room_1 s m #[Value.ref b] below meth c H locs (cells + 5) (slots + 30) Q (F0 m 1365 ls [])) : W p l e room_1 s m #[Value.ref b] below meth c H locs cells slots Q (F0 m 1328 ls []) := by
  have hx := C.hx
  have hb := C.hb
  refine lv_aload_n hx hb dL_law_1328 rfl (lv_at hl 1 rfl) ?_
  refine lv_aload_n hx hb dL_law_1329 rfl (lv_at hl 0 rfl) ?_
  refine lv_iload hx hb dL_law_1330 (lv_at hl 4 rfl) ?_
  refine lv_iconst (v := 1) hx hb dL_law_1332 (by decide) ?_
  refine lv_iadd hx hb dL_law_1333 ?_
  refine va_sld hx hb hX hbl hbA hS hj1 dL_law_1334 ?_
  refine lv_aload_n hx hb dL_law_1335 rfl (lv_at hl 0 rfl) ?_
  refine lv_iload hx hb dL_law_1336 (lv_at hl 4 rfl) ?_
  refine lv_iconst (v := 2) hx hb dL_law_1338 (by decide) ?_
  refine lv_iadd hx hb dL_law_1339 ?_
  refine va_sld hx hb hX hbl hbA hS hj2 dL_law_1340 ?_
  refine gM_callVi (As := [.int (xs (iv + 1).toNatClampNeg), .int (xs (iv + 2).toNatClampNeg)]) (rest := []) C hP hS hl.1 (ct_X3_mayRun l D cy ad hJ np (xs (iv + 1).toNatClampNeg) (xs (iv + 2).toNatClampNeg) I L h.hnp h.np10) fa_X3_mayRun kl_L_151 ki_X3_mayRun kse_X3_mayRun (by decide) (T := TX3) rfl rfl rfl ⟨Nat.le_of_ble_eq_true rfl, Nat.le_of_ble_eq_true rfl⟩ (Nat.le_of_ble_eq_true rfl) ⟨by show cells + 0 ≤ 620044; omega, by show slots + 0 ≤ 7235973; omega⟩ dL_law_1341 rfl (fun k9 I1 L1 H locs hq hP hS => ?_)
  obtain ⟨hR, hO⟩ := op_mayRun h hq
  have mf := iMF.of h hR
  refine W.widen (k := cells + 5) (n := slots + 30) (by show cells + 0 ≤ cells + 5; omega) (by show slots + 0 ≤ slots + 30; omega) ?_
  refine lv_aload_n hx hb dL_law_1344 rfl (lv_at hl 2 rfl) ?_
  refine lv_aload_n hx hb dL_law_1345 rfl (lv_at hl 0 rfl) ?_
  refine lv_iload hx hb dL_law_1346 (lv_at hl 4 rfl) ?_
  refine lv_iconst (v := 1) hx hb dL_law_1348 (by decide) ?_
  refine lv_iadd hx hb dL_law_1349 ?_
  refine va_sld hx hb hX hbl hbA hS hj1 dL_law_1350 ?_
  refine lv_aload_n hx hb dL_law_1351 rfl (lv_at hl 0 rfl) ?_
  refine lv_iload hx hb dL_law_1352 (lv_at hl 4 rfl) ?_
  refine lv_iconst (v := 2) hx hb dL_law_1354 (by decide) ?_
  refine lv_iadd hx hb dL_law_1355 ?_
  refine va_sld hx hb hX hbl hbA hS hj2 dL_law_1356 ?_
  refine gM_callVi (As := [.int (xs (iv + 1).toNatClampNeg), .int (xs (iv + 2).toNatClampNeg)]) (rest := [.int k9]) C hP hS hl.1 (ct_X4_mayRun l D cy ad hJ np (xs (iv + 1).toNatClampNeg) (xs (iv + 2).toNatClampNeg) I1 L1 mf.1 h.np10) fa_X4_mayRun kl_L_155 ki_X4_mayRun kse_X4_mayRun (by decide) (T := TX4) rfl rfl rfl ⟨Nat.le_of_ble_eq_true rfl, Nat.le_of_ble_eq_true rfl⟩ (Nat.le_of_ble_eq_true rfl) ⟨by show cells + 5 + 0 ≤ 620044; omega, by show slots + 30 + 0 ≤ 7235973; omega⟩ dL_law_1357 rfl (fun b9 I2 L2 H locs hm hP hS => ?_)
  obtain ⟨e9, h2⟩ := hO b9 I2 L2 hm
  refine W.widen (k := cells + 5) (n := slots + 30) (by show cells + 5 + 0 ≤ cells + 5; omega) (by show slots + 30 + 0 ≤ slots + 30; omega) ?_
  refine lv_icmp_eq (tgt := 1365) hx hb dL_law_1360 (by decide) (fun c1360 => ?_) (fun c1360 => absurd e9.1 c1360)
  exact kk _ _ _ _ _ _ _ _ h2 hP hS (lv_sub hl [0, 1, 2, 3, 4] rfl)
end LW
