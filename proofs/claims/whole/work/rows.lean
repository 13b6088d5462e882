section
-- ===== PART A: goes FIRST, ahead of the names: the tables' words, and 'selects' of the private methods out of them =====
/-- a private method of a class that the tables say can be made, by its rows of tables_1 -/
def lw_okq (q : MethodName × Nat) : Prop := (q.1.cls ≠ "java/lang/invoke/MethodHandle" ∧ q.1.cls ≠ "java/lang/invoke/VarHandle") ∧ Cond.instantiable q.1.cls q.2 ∈ tables_1 ∧ Cond.privateMethod q.1 ∈ tables_1 ∧ Cond.instanceMethod q.1 ∈ tables_1
theorem lw_p0 : lw_okq (⟨"CertifiedBooks", "countUnsoundBalances", "()I"⟩, 9) := ⟨⟨by decide +kernel, by decide +kernel⟩, List.mem_of_getElem? (i := 15) (by decide +kernel), List.mem_of_getElem? (i := 140) (by decide +kernel), List.mem_of_getElem? (i := 141) (by decide +kernel)⟩
theorem lw_p1 : lw_okq (⟨"CertifiedBooks", "isProcedure", "(I)Z"⟩, 9) := ⟨⟨by decide +kernel, by decide +kernel⟩, List.mem_of_getElem? (i := 15) (by decide +kernel), List.mem_of_getElem? (i := 155) (by decide +kernel), List.mem_of_getElem? (i := 156) (by decide +kernel)⟩
theorem lw_p2 : lw_okq (⟨"CertifiedBooks$Procedure", "isCertified", "()Z"⟩, 5) := ⟨⟨by decide +kernel, by decide +kernel⟩, List.mem_of_getElem? (i := 31) (by decide +kernel), List.mem_of_getElem? (i := 159) (by decide +kernel), List.mem_of_getElem? (i := 160) (by decide +kernel)⟩
theorem lw_p3 : lw_okq (⟨"java/lang/Throwable", "fillInStackTrace", "(I)Ljava/lang/Throwable;"⟩, 6) := ⟨⟨by decide +kernel, by decide +kernel⟩, List.mem_of_getElem? (i := 215) (by decide +kernel), List.mem_of_getElem? (i := 213) (by decide +kernel), List.mem_of_getElem? (i := 214) (by decide +kernel)⟩
theorem lw_p4 : lw_okq (⟨"CertifiedBooks$Procedure", "appendLine", "(II)V"⟩, 5) := ⟨⟨by decide +kernel, by decide +kernel⟩, List.mem_of_getElem? (i := 31) (by decide +kernel), List.mem_of_getElem? (i := 280) (by decide +kernel), List.mem_of_getElem? (i := 281) (by decide +kernel)⟩
theorem lw_p5 : lw_okq (⟨"CertifiedBooks", "requireProcedure", "(I)V"⟩, 9) := ⟨⟨by decide +kernel, by decide +kernel⟩, List.mem_of_getElem? (i := 15) (by decide +kernel), List.mem_of_getElem? (i := 291) (by decide +kernel), List.mem_of_getElem? (i := 292) (by decide +kernel)⟩
theorem lw_p6 : lw_okq (⟨"CertifiedBooks$Procedure", "hasLineFor", "(I)Z"⟩, 5) := ⟨⟨by decide +kernel, by decide +kernel⟩, List.mem_of_getElem? (i := 31) (by decide +kernel), List.mem_of_getElem? (i := 296) (by decide +kernel), List.mem_of_getElem? (i := 297) (by decide +kernel)⟩
theorem lw_p7 : lw_okq (⟨"CertifiedBooks$Procedure", "shareSum", "()I"⟩, 5) := ⟨⟨by decide +kernel, by decide +kernel⟩, List.mem_of_getElem? (i := 31) (by decide +kernel), List.mem_of_getElem? (i := 333) (by decide +kernel), List.mem_of_getElem? (i := 334) (by decide +kernel)⟩
theorem lw_p8 : lw_okq (⟨"CertifiedBooks", "requireMayRun", "(II)V"⟩, 9) := ⟨⟨by decide +kernel, by decide +kernel⟩, List.mem_of_getElem? (i := 15) (by decide +kernel), List.mem_of_getElem? (i := 365) (by decide +kernel), List.mem_of_getElem? (i := 366) (by decide +kernel)⟩
theorem lw_p9 : lw_okq (⟨"CertifiedBooks", "requireBooksTakeRun", "()V"⟩, 9) := ⟨⟨by decide +kernel, by decide +kernel⟩, List.mem_of_getElem? (i := 15) (by decide +kernel), List.mem_of_getElem? (i := 373) (by decide +kernel), List.mem_of_getElem? (i := 374) (by decide +kernel)⟩
theorem lw_p10 : lw_okq (⟨"CertifiedBooks", "fileRequest", "(IIJ)I"⟩, 9) := ⟨⟨by decide +kernel, by decide +kernel⟩, List.mem_of_getElem? (i := 15) (by decide +kernel), List.mem_of_getElem? (i := 380) (by decide +kernel), List.mem_of_getElem? (i := 381) (by decide +kernel)⟩
theorem lw_p11 : lw_okq (⟨"CertifiedBooks$Request", "isInUse", "()Z"⟩, 3) := ⟨⟨by decide +kernel, by decide +kernel⟩, List.mem_of_getElem? (i := 59) (by decide +kernel), List.mem_of_getElem? (i := 384) (by decide +kernel), List.mem_of_getElem? (i := 385) (by decide +kernel)⟩
theorem lw_p12 : lw_okq (⟨"CertifiedBooks$Request", "fill", "(IIJ)V"⟩, 3) := ⟨⟨by decide +kernel, by decide +kernel⟩, List.mem_of_getElem? (i := 59) (by decide +kernel), List.mem_of_getElem? (i := 388) (by decide +kernel), List.mem_of_getElem? (i := 389) (by decide +kernel)⟩
theorem lw_p13 : lw_okq (⟨"CertifiedBooks", "runAndLog", "(IJIII)I"⟩, 9) := ⟨⟨by decide +kernel, by decide +kernel⟩, List.mem_of_getElem? (i := 15) (by decide +kernel), List.mem_of_getElem? (i := 393) (by decide +kernel), List.mem_of_getElem? (i := 394) (by decide +kernel)⟩
theorem lw_p14 : lw_okq (⟨"CertifiedBooks$Procedure", "computePostings", "(J[J)V"⟩, 5) := ⟨⟨by decide +kernel, by decide +kernel⟩, List.mem_of_getElem? (i := 31) (by decide +kernel), List.mem_of_getElem? (i := 397) (by decide +kernel), List.mem_of_getElem? (i := 398) (by decide +kernel)⟩
theorem lw_p15 : lw_okq (⟨"CertifiedBooks", "negatePostings", "()V"⟩, 9) := ⟨⟨by decide +kernel, by decide +kernel⟩, List.mem_of_getElem? (i := 15) (by decide +kernel), List.mem_of_getElem? (i := 402) (by decide +kernel), List.mem_of_getElem? (i := 403) (by decide +kernel)⟩
def lw_privs_1 : List (MethodName × Nat) := [(⟨"CertifiedBooks", "countUnsoundBalances", "()I"⟩, 9), (⟨"CertifiedBooks", "isProcedure", "(I)Z"⟩, 9), (⟨"CertifiedBooks$Procedure", "isCertified", "()Z"⟩, 5), (⟨"java/lang/Throwable", "fillInStackTrace", "(I)Ljava/lang/Throwable;"⟩, 6), (⟨"CertifiedBooks$Procedure", "appendLine", "(II)V"⟩, 5), (⟨"CertifiedBooks", "requireProcedure", "(I)V"⟩, 9), (⟨"CertifiedBooks$Procedure", "hasLineFor", "(I)Z"⟩, 5), (⟨"CertifiedBooks$Procedure", "shareSum", "()I"⟩, 5), (⟨"CertifiedBooks", "requireMayRun", "(II)V"⟩, 9), (⟨"CertifiedBooks", "requireBooksTakeRun", "()V"⟩, 9), (⟨"CertifiedBooks", "fileRequest", "(IIJ)I"⟩, 9), (⟨"CertifiedBooks$Request", "isInUse", "()Z"⟩, 3), (⟨"CertifiedBooks$Request", "fill", "(IIJ)V"⟩, 3), (⟨"CertifiedBooks", "runAndLog", "(IJIII)I"⟩, 9), (⟨"CertifiedBooks$Procedure", "computePostings", "(J[J)V"⟩, 5), (⟨"CertifiedBooks", "negatePostings", "()V"⟩, 9)]
theorem lw_r1 : ∀ q ∈ lw_privs_1, lw_okq q := List.forall_mem_cons.mpr ⟨lw_p0, List.forall_mem_cons.mpr ⟨lw_p1, List.forall_mem_cons.mpr ⟨lw_p2, List.forall_mem_cons.mpr ⟨lw_p3, List.forall_mem_cons.mpr ⟨lw_p4, List.forall_mem_cons.mpr ⟨lw_p5, List.forall_mem_cons.mpr ⟨lw_p6, List.forall_mem_cons.mpr ⟨lw_p7, List.forall_mem_cons.mpr ⟨lw_p8, List.forall_mem_cons.mpr ⟨lw_p9, List.forall_mem_cons.mpr ⟨lw_p10, List.forall_mem_cons.mpr ⟨lw_p11, List.forall_mem_cons.mpr ⟨lw_p12, List.forall_mem_cons.mpr ⟨lw_p13, List.forall_mem_cons.mpr ⟨lw_p14, List.forall_mem_cons.mpr ⟨lw_p15, fun _ h => absurd h List.not_mem_nil⟩⟩⟩⟩⟩⟩⟩⟩⟩⟩⟩⟩⟩⟩⟩⟩
theorem lw_p16 : lw_okq (⟨"CertifiedBooks", "requireNoLineFails", "(LCertifiedBooks$Procedure;)V"⟩, 9) := ⟨⟨by decide +kernel, by decide +kernel⟩, List.mem_of_getElem? (i := 15) (by decide +kernel), List.mem_of_getElem? (i := 406) (by decide +kernel), List.mem_of_getElem? (i := 407) (by decide +kernel)⟩
theorem lw_p17 : lw_okq (⟨"CertifiedBooks$Entry", "fill", "(IJIII)V"⟩, 6) := ⟨⟨by decide +kernel, by decide +kernel⟩, List.mem_of_getElem? (i := 77) (by decide +kernel), List.mem_of_getElem? (i := 414) (by decide +kernel), List.mem_of_getElem? (i := 415) (by decide +kernel)⟩
theorem lw_p18 : lw_okq (⟨"CertifiedBooks", "requireRequest", "(I)V"⟩, 9) := ⟨⟨by decide +kernel, by decide +kernel⟩, List.mem_of_getElem? (i := 15) (by decide +kernel), List.mem_of_getElem? (i := 425) (by decide +kernel), List.mem_of_getElem? (i := 426) (by decide +kernel)⟩
theorem lw_p19 : lw_okq (⟨"CertifiedBooks", "mayApprove", "(ILCertifiedBooks$Request;)Z"⟩, 9) := ⟨⟨by decide +kernel, by decide +kernel⟩, List.mem_of_getElem? (i := 15) (by decide +kernel), List.mem_of_getElem? (i := 430) (by decide +kernel), List.mem_of_getElem? (i := 431) (by decide +kernel)⟩
theorem lw_p20 : lw_okq (⟨"CertifiedBooks$Request", "clear", "()V"⟩, 3) := ⟨⟨by decide +kernel, by decide +kernel⟩, List.mem_of_getElem? (i := 59) (by decide +kernel), List.mem_of_getElem? (i := 435) (by decide +kernel), List.mem_of_getElem? (i := 436) (by decide +kernel)⟩
theorem lw_p21 : lw_okq (⟨"CertifiedBooks", "requireEntry", "(I)V"⟩, 9) := ⟨⟨by decide +kernel, by decide +kernel⟩, List.mem_of_getElem? (i := 15) (by decide +kernel), List.mem_of_getElem? (i := 454) (by decide +kernel), List.mem_of_getElem? (i := 455) (by decide +kernel)⟩
theorem lw_p22 : lw_okq (⟨"CertifiedBooksModel", "isProcedure", "(I)Z"⟩, 20) := ⟨⟨by decide +kernel, by decide +kernel⟩, List.mem_of_getElem? (i := 517) (by decide +kernel), List.mem_of_getElem? (i := 603) (by decide +kernel), List.mem_of_getElem? (i := 604) (by decide +kernel)⟩
theorem lw_p23 : lw_okq (⟨"CertifiedBooksModel", "hasLine", "(II)Z"⟩, 20) := ⟨⟨by decide +kernel, by decide +kernel⟩, List.mem_of_getElem? (i := 517) (by decide +kernel), List.mem_of_getElem? (i := 607) (by decide +kernel), List.mem_of_getElem? (i := 608) (by decide +kernel)⟩
theorem lw_p24 : lw_okq (⟨"CertifiedBooksModel", "allShares", "(I)I"⟩, 20) := ⟨⟨by decide +kernel, by decide +kernel⟩, List.mem_of_getElem? (i := 517) (by decide +kernel), List.mem_of_getElem? (i := 618) (by decide +kernel), List.mem_of_getElem? (i := 619) (by decide +kernel)⟩
theorem lw_p25 : lw_okq (⟨"CertifiedBooksModel", "may", "(II)Z"⟩, 20) := ⟨⟨by decide +kernel, by decide +kernel⟩, List.mem_of_getElem? (i := 517) (by decide +kernel), List.mem_of_getElem? (i := 630) (by decide +kernel), List.mem_of_getElem? (i := 631) (by decide +kernel)⟩
theorem lw_p26 : lw_okq (⟨"CertifiedBooksModel", "isSound", "()Z"⟩, 20) := ⟨⟨by decide +kernel, by decide +kernel⟩, List.mem_of_getElem? (i := 517) (by decide +kernel), List.mem_of_getElem? (i := 643) (by decide +kernel), List.mem_of_getElem? (i := 644) (by decide +kernel)⟩
theorem lw_p27 : lw_okq (⟨"CertifiedBooksModel", "logged", "(II)J"⟩, 20) := ⟨⟨by decide +kernel, by decide +kernel⟩, List.mem_of_getElem? (i := 517) (by decide +kernel), List.mem_of_getElem? (i := 647) (by decide +kernel), List.mem_of_getElem? (i := 648) (by decide +kernel)⟩
theorem lw_p28 : lw_okq (⟨"CertifiedBooksModel", "findPosts", "(IJ)V"⟩, 20) := ⟨⟨by decide +kernel, by decide +kernel⟩, List.mem_of_getElem? (i := 517) (by decide +kernel), List.mem_of_getElem? (i := 651) (by decide +kernel), List.mem_of_getElem? (i := 652) (by decide +kernel)⟩
theorem lw_p29 : lw_okq (⟨"CertifiedBooksModel", "request", "(IIJ)I"⟩, 20) := ⟨⟨by decide +kernel, by decide +kernel⟩, List.mem_of_getElem? (i := 517) (by decide +kernel), List.mem_of_getElem? (i := 662) (by decide +kernel), List.mem_of_getElem? (i := 663) (by decide +kernel)⟩
theorem lw_p30 : lw_okq (⟨"CertifiedBooksModel", "freeRequest", "()I"⟩, 20) := ⟨⟨by decide +kernel, by decide +kernel⟩, List.mem_of_getElem? (i := 517) (by decide +kernel), List.mem_of_getElem? (i := 666) (by decide +kernel), List.mem_of_getElem? (i := 667) (by decide +kernel)⟩
theorem lw_p31 : lw_okq (⟨"CertifiedBooksModel", "enter", "(IJIII)I"⟩, 20) := ⟨⟨by decide +kernel, by decide +kernel⟩, List.mem_of_getElem? (i := 517) (by decide +kernel), List.mem_of_getElem? (i := 670) (by decide +kernel), List.mem_of_getElem? (i := 671) (by decide +kernel)⟩
def lw_privs_2 : List (MethodName × Nat) := [(⟨"CertifiedBooks", "requireNoLineFails", "(LCertifiedBooks$Procedure;)V"⟩, 9), (⟨"CertifiedBooks$Entry", "fill", "(IJIII)V"⟩, 6), (⟨"CertifiedBooks", "requireRequest", "(I)V"⟩, 9), (⟨"CertifiedBooks", "mayApprove", "(ILCertifiedBooks$Request;)Z"⟩, 9), (⟨"CertifiedBooks$Request", "clear", "()V"⟩, 3), (⟨"CertifiedBooks", "requireEntry", "(I)V"⟩, 9), (⟨"CertifiedBooksModel", "isProcedure", "(I)Z"⟩, 20), (⟨"CertifiedBooksModel", "hasLine", "(II)Z"⟩, 20), (⟨"CertifiedBooksModel", "allShares", "(I)I"⟩, 20), (⟨"CertifiedBooksModel", "may", "(II)Z"⟩, 20), (⟨"CertifiedBooksModel", "isSound", "()Z"⟩, 20), (⟨"CertifiedBooksModel", "logged", "(II)J"⟩, 20), (⟨"CertifiedBooksModel", "findPosts", "(IJ)V"⟩, 20), (⟨"CertifiedBooksModel", "request", "(IIJ)I"⟩, 20), (⟨"CertifiedBooksModel", "freeRequest", "()I"⟩, 20), (⟨"CertifiedBooksModel", "enter", "(IJIII)I"⟩, 20)]
theorem lw_r2 : ∀ q ∈ lw_privs_2, lw_okq q := List.forall_mem_cons.mpr ⟨lw_p16, List.forall_mem_cons.mpr ⟨lw_p17, List.forall_mem_cons.mpr ⟨lw_p18, List.forall_mem_cons.mpr ⟨lw_p19, List.forall_mem_cons.mpr ⟨lw_p20, List.forall_mem_cons.mpr ⟨lw_p21, List.forall_mem_cons.mpr ⟨lw_p22, List.forall_mem_cons.mpr ⟨lw_p23, List.forall_mem_cons.mpr ⟨lw_p24, List.forall_mem_cons.mpr ⟨lw_p25, List.forall_mem_cons.mpr ⟨lw_p26, List.forall_mem_cons.mpr ⟨lw_p27, List.forall_mem_cons.mpr ⟨lw_p28, List.forall_mem_cons.mpr ⟨lw_p29, List.forall_mem_cons.mpr ⟨lw_p30, List.forall_mem_cons.mpr ⟨lw_p31, fun _ h => absurd h List.not_mem_nil⟩⟩⟩⟩⟩⟩⟩⟩⟩⟩⟩⟩⟩⟩⟩⟩
theorem lw_p32 : lw_okq (⟨"CertifiedBooksModel", "run", "(IJJ)Z"⟩, 20) := ⟨⟨by decide +kernel, by decide +kernel⟩, List.mem_of_getElem? (i := 517) (by decide +kernel), List.mem_of_getElem? (i := 675) (by decide +kernel), List.mem_of_getElem? (i := 676) (by decide +kernel)⟩
theorem lw_p33 : lw_okq (⟨"CertifiedBooksModel", "isRequest", "(I)Z"⟩, 20) := ⟨⟨by decide +kernel, by decide +kernel⟩, List.mem_of_getElem? (i := 517) (by decide +kernel), List.mem_of_getElem? (i := 683) (by decide +kernel), List.mem_of_getElem? (i := 684) (by decide +kernel)⟩
theorem lw_p34 : lw_okq (⟨"CertifiedBooksModel", "mayApprove", "(II)Z"⟩, 20) := ⟨⟨by decide +kernel, by decide +kernel⟩, List.mem_of_getElem? (i := 517) (by decide +kernel), List.mem_of_getElem? (i := 687) (by decide +kernel), List.mem_of_getElem? (i := 688) (by decide +kernel)⟩
theorem lw_p35 : lw_okq (⟨"CertifiedBooksModel", "isEntry", "(I)Z"⟩, 20) := ⟨⟨by decide +kernel, by decide +kernel⟩, List.mem_of_getElem? (i := 517) (by decide +kernel), List.mem_of_getElem? (i := 699) (by decide +kernel), List.mem_of_getElem? (i := 700) (by decide +kernel)⟩
def lw_privs_3 : List (MethodName × Nat) := [(⟨"CertifiedBooksModel", "run", "(IJJ)Z"⟩, 20), (⟨"CertifiedBooksModel", "isRequest", "(I)Z"⟩, 20), (⟨"CertifiedBooksModel", "mayApprove", "(II)Z"⟩, 20), (⟨"CertifiedBooksModel", "isEntry", "(I)Z"⟩, 20)]
theorem lw_r3 : ∀ q ∈ lw_privs_3, lw_okq q := List.forall_mem_cons.mpr ⟨lw_p32, List.forall_mem_cons.mpr ⟨lw_p33, List.forall_mem_cons.mpr ⟨lw_p34, List.forall_mem_cons.mpr ⟨lw_p35, fun _ h => absurd h List.not_mem_nil⟩⟩⟩⟩
def lw_privs : List (MethodName × Nat) := lw_privs_1 ++ (lw_privs_2 ++ (lw_privs_3))
def lw_tbl : List Cond := k2_sels lw_privs ++ tables_1
theorem lw_privs_ok : ∀ q ∈ lw_privs, lw_okq q := by
  show ∀ q ∈ lw_privs_1 ++ (lw_privs_2 ++ (lw_privs_3)), lw_okq q
  exact List.forall_mem_append.mpr ⟨lw_r1, List.forall_mem_append.mpr ⟨lw_r2, lw_r3⟩⟩
end
section
def va_AOA (t : FieldType) (U : State) : Prop := (Cond.arrayOver (.array t)).before #[] U = true
theorem va_AOA.use {t : FieldType} {A : Array Value} {U : State} (h : va_AOA t U) : (Cond.arrayOver (.array t)).before A U = true := h
/-! ===== BEGIN words of one list among another's, by their places ===== -/
theorem goodIn_r {big : List Cond} (ws : List Cond) (ps : List Nat) (hp : ws = ps.filterMap (fun i => big[i]?)) (h : ws.all goodWord = true) : GoodIn big ws := by
  intro w hw
  have h1 := List.all_eq_true.mp h w hw
  rw [hp] at hw
  obtain ⟨i, -, hi⟩ := List.mem_filterMap.mp hw
  have hm : w ∈ big := by first | exact List.mem_of_getElem? hi | exact List.getElem?_mem hi
  exact ⟨hm, good_of_word h1⟩
theorem goodIn_app {big a b : List Cond} (ha : GoodIn big a) (hb : GoodIn big b) : GoodIn big (a ++ b) := fun w h => (List.mem_append.mp h).elim (ha w) (hb w)
theorem goodIn_ca {big a b : List Cond} {c : Cond} (ha : GoodIn big (c :: a)) (hb : GoodIn big b) : GoodIn big (c :: (a ++ b)) := fun w h => (List.mem_cons.mp h).elim (fun e => ha w (List.mem_cons.mpr (Or.inl e))) (fun h => (List.mem_append.mp h).elim (fun h => ha w (List.mem_cons.mpr (Or.inr h))) (hb w))
theorem goodIn_sub {big ws : List Cond} (hm : ∀ w ∈ ws, w ∈ big) (h : ws.all goodWord = true) : GoodIn big ws := fun w hw => ⟨hm w hw, good_of_word (List.all_eq_true.mp h w hw)⟩
/-! ===== END ===== -/

/-! ===== BEGIN new T[n][m]: the outer array a place, the inner ones among the pooled ===== -/
/-- f, but v at every address of l -/
def vr_up {α : Type} (f : Nat → α) (l : List Nat) (v : α) : Nat → α := fun a => if a ∈ l then v else f a
theorem vr_up_in {α : Type} {f : Nat → α} {l : List Nat} {v : α} {a : Nat} (h : a ∈ l) : vr_up f l v a = v := if_pos h
theorem vr_up_ne {α : Type} {f : Nat → α} {l : List Nat} {v : α} {a : Nat} (h : a ∉ l) : vr_up f l v a = f a := if_neg h
theorem vr_rows {L l : List Nat} {f : Nat → va_E} {e : va_E} (h : ∀ a, a ∈ l → a ∉ L) : va_pl L f ++ l.map (fun a => (a, e)) = va_pl (L ++ l) (vr_up f l e) := by
  unfold va_pl
  rw [List.map_append]
  congr 1
  · apply List.map_congr_left
    intro a ha
    rw [vr_up_ne (fun q => h a q ha)]
  · apply List.map_congr_left
    intro a ha
    rw [vr_up_in ha]
theorem vr_lay {X rows : va_W} {x : Nat × va_E} {pl : va_W} {D : va_G} {cl : List vw_C} {H : Heap} (hP : va_P D cl (((X ++ pl) ++ [x]) ++ rows) H) : va_P D cl ((X ++ [x]) ++ (pl ++ rows)) H := by
  rw [List.append_assoc (X ++ pl)] at hP
  have h := va_P.swap hP
  rw [← List.append_assoc X] at h
  have h2 := va_P.swap h
  rw [List.append_assoc (X ++ [x])] at h2
  exact h2
theorem vr_layD {X rows : va_W} {x : Nat × va_E} {pl : va_W} {A : Nat → Prop} (hD : va_D A (((X ++ pl) ++ [x]) ++ rows)) : va_D A ((X ++ [x]) ++ (pl ++ rows)) := by
  rw [List.append_assoc (X ++ pl)] at hD
  have h := va_D.swap hD
  rw [← List.append_assoc X] at h
  have h2 := va_D.swap h
  rw [List.append_assoc (X ++ [x])] at h2
  exact h2
theorem vr_outer (c : ClassId) (N h0 : Nat) : ∀ i : Nat, Jvm.Free.Multi.outerC c N h0 i = arrV c N (fun j => va_rf (if j < i then some (h0 + 1 + j) else none))
  | 0 => by
    show ({ cls := c, slots := Array.replicate N .null, vm := .none } : Cell) = _
    rw [arrV_new]
    refine congrArg (arrV c N) (funext fun j => ?_)
    simp [va_rf]
  | i + 1 => by
    show (Jvm.Free.Multi.outerC c N h0 i).setSlot i (.ref (h0 + 1 + i)) = _
    rw [vr_outer c N h0 i, arrV_store]
    refine congrArg (arrV c N) (funext fun j => ?_)
    by_cases e : j = i
    · subst e
      simp [updV, va_rf]
    · by_cases h : j < i
      · simp [updV, e, h, Nat.lt_succ_of_lt h]
      · simp [updV, e, h, show ¬ j < i + 1 by omega]
section VGM
variable {p : Program} {l : Launch} {e : Env} {R : Room} {s : State} {m : MethodId} {args : Array Value} {below : List Frame} {meth : Method} {c : Code} {H : Heap} {locs : List Loc} {cells slots : Nat} {Q : State → Prop}
variable {cc : ByteArray} {pc : Nat} {ls : Array Slot} {rest : List Value} {D : va_G} {cl : List vw_C} {A : Nat → Prop} {a : Nat} {tys : List (ClassId × FieldType)} {ws : va_W} {H0 : Heap}
theorem va_mna {X : va_W} {L : List Nat} {f : Nat → va_E} {cc : ByteArray} (hexec : p.tables.exec = Jvm.exec) (hb : c.code = cc) {own : String} {index : Nat} {ty : FieldType} {cy : ClassId} (hown : s.vm.findClass own = some m.cls) (hclink : (Cond.classLink own index ("[" ++ (FieldType.array ty).toString)).before args s = true) (hover : va_AOA ty s) (harr : (Cond.arrayClass ty).before args s = true) (hcy : s.vm.findClass (FieldType.array ty).toString = some cy)
    (hK : va_K D cl tys s) (hP : va_P D cl (X ++ va_pl L f) H) (hD : va_D A (X ++ va_pl L f)) (hS : va_S A H0 H locs) (hA : ∀ q, H0.size ≤ q → A q) {n k : Int32} {N' K' : Nat} {z : vp_A} (hn : ¬ n < 0) (hk : ¬ k < 0) (hN : n.toNatClampNeg = N') (hM : k.toNatClampNeg = K')
    (hb1 : N' * 4 ≤ 536870912) (hb2 : K' * componentBytes ty ≤ 536870912) (hb3 : K' ≤ 536870912) (hdf : fits ty (defaultValue ty) = true) (hdd : (defaultValue ty).isDefault = true) (hcells : cells + (1 + N') ≤ R.cells) (hslots : slots + (N' + N' * K') ≤ R.slots) (hz : ∀ c : ClassId, Jvm.Free.Multi.innerC c K' (defaultValue ty) = vp_cell c z) (hdg : decode cc pc = .ok (.multianewarray index 2, 4))
    (kk : ∀ (q : Nat) (r : Nat → Nat) (cA : ClassId) (H1 : Heap), (∀ i j : Nat, i < N' → j < N' → r i = r j → i = j) → (∀ i : Nat, i < N' → r i ∉ L) → va_K D cl (tys ++ [(cA, .array ty)]) s →
      va_P D cl ((X ++ [(q, .inl (cA, N', .inr (.inr (.inr (.inr (fun i => if i < N' then some (r i) else none))))))]) ++ va_pl (L ++ (List.range N').map r) (vr_up f ((List.range N').map r) (.inl (cy, z)))) H1 → va_D A ((X ++ [(q, .inl (cA, N', .inr (.inr (.inr (.inr (fun i => if i < N' then some (r i) else none))))))]) ++ va_pl (L ++ (List.range N').map r) (vr_up f ((List.range N').map r) (.inl (cy, z)))) → va_S A H0 H1 locs →
      W p l e R s m args below meth c H1 locs (cells + 1 + N') (slots + N' + N' * K') Q (F0 m (pc + 4) ls (.ref q :: rest))) : W p l e R s m args below meth c H locs cells slots Q (F0 m pc ls (.int k :: .int n :: rest)) := by
  subst hN
  subst hM
  intro T hT Xs
  obtain ⟨vm₁, cA, comp, -, fA, fC, hO, -, X', step⟩ := Xs.multianewarray2F hexec hown hclink (va_AOA.use hover) harr (g := F0 m pc ls (.int k :: .int n :: rest)) rfl (by rw [hb]; exact hdg) rfl hn hk hb1 hb2 hb3 hdf hdd hcells hslots
  have ec : some cy = some comp := hcy.symm.trans fC
  cases ec
  generalize hF : Jvm.Free.Multi.fill (T.setVm vm₁) cA cy n.toNatClampNeg k.toNatClampNeg (defaultValue ty) n.toNatClampNeg = F at X' step
  have hTh : (T.setVm vm₁).heap = H := hT
  obtain ⟨f1, f2, -, -⟩ := Jvm.Free.Multi.fill_facts (T.setVm vm₁) cA cy n.toNatClampNeg k.toNatClampNeg (defaultValue ty) n.toNatClampNeg
  rw [hF, hTh] at f1 f2
  have hold : ∀ x : Nat, x < H.size → F.heap[x]? = H[x]? := fun x hx => by
    have := Jvm.Free.Multi.fill_old (T.setVm vm₁) cA cy n.toNatClampNeg k.toNatClampNeg (defaultValue ty) (a := x) (by rw [hTh]; exact hx) n.toNatClampNeg
    rw [hF, hTh] at this
    exact this
  have hrow : ∀ j : Nat, j < n.toNatClampNeg → F.heap[H.size + 1 + j]? = some (vp_cell cy z) := fun j hj => by
    have := Jvm.Free.Multi.fill_inner (T.setVm vm₁) cA cy n.toNatClampNeg k.toNatClampNeg (defaultValue ty) n.toNatClampNeg j hj
    rw [hF, hTh, hz] at this
    exact this
  have hout : Jvm.Free.Multi.outerC cA n.toNatClampNeg H.size n.toNatClampNeg = vp_cell cA (n.toNatClampNeg, .inr (.inr (.inr (.inr (fun i => if i < n.toNatClampNeg then some (H.size + 1 + i) else none))))) := by
    rw [vp_cell_q]
    exact vr_outer cA n.toNatClampNeg H.size n.toNatClampNeg
  rw [hout] at f2
  have hlt : ∀ a, a ∈ L → a < H.size := fun a ha => by
    obtain ⟨k9, hk9⟩ := va_pl_get (X := X) (f := f) ha
    exact (hP k9 _ hk9).lt
  have hnl : ∀ i : Nat, i < n.toNatClampNeg → H.size + 1 + i ∉ L := fun i _ h => by
    have := hlt _ h
    omega
  have hnm : ∀ a, a ∈ (List.range n.toNatClampNeg).map (fun i => H.size + 1 + i) → a ∉ L := fun a ha h => by
    obtain ⟨i, -, rfl⟩ := List.mem_map.mp ha
    have := hlt _ h
    omega
  have hP0 : va_P D cl (X ++ va_pl L f) F.heap := hP.kept (fun k9 x hx => hold x.1 ((hP k9 x hx).lt))
  have hP1 : va_P D cl ((X ++ va_pl L f) ++ [(H.size, .inl (cA, n.toNatClampNeg, .inr (.inr (.inr (.inr (fun i => if i < n.toNatClampNeg then some (H.size + 1 + i) else none))))))]) F.heap := hP0.app (fun k9 x hx => by
    have h0 : k9 < 1 := (List.getElem?_eq_some_iff.mp hx).1
    rw [show k9 = 0 by omega] at hx
    cases hx
    exact f2)
  have hP2 : va_P D cl (((X ++ va_pl L f) ++ [(H.size, .inl (cA, n.toNatClampNeg, .inr (.inr (.inr (.inr (fun i => if i < n.toNatClampNeg then some (H.size + 1 + i) else none))))))]) ++ ((List.range n.toNatClampNeg).map (fun i => H.size + 1 + i)).map (fun a => (a, .inl (cy, z)))) F.heap := hP1.app (fun k9 x hx => by
    obtain ⟨a, ha, rfl⟩ := List.mem_map.mp (List.mem_of_getElem? hx)
    obtain ⟨i, hi, rfl⟩ := List.mem_map.mp ha
    exact hrow i (List.mem_range.mp hi))
  have hD2 : va_D A (((X ++ va_pl L f) ++ [(H.size, .inl (cA, n.toNatClampNeg, .inr (.inr (.inr (.inr (fun i => if i < n.toNatClampNeg then some (H.size + 1 + i) else none))))))]) ++ ((List.range n.toNatClampNeg).map (fun i => H.size + 1 + i)).map (fun a => (a, .inl (cy, z)))) := by
    have hD1 := hD.push (e := .inl (cA, n.toNatClampNeg, .inr (.inr (.inr (.inr (fun i => if i < n.toNatClampNeg then some (H.size + 1 + i) else none)))))) hP rfl (hA _ hS.1)
    generalize hW1 : (X ++ va_pl L f) ++ [(H.size, .inl (cA, n.toNatClampNeg, .inr (.inr (.inr (.inr (fun i => if i < n.toNatClampNeg then some (H.size + 1 + i) else none))))))] = W1 at hD1 hP1 ⊢
    have hle : ∀ (k9 : Nat) (x : Nat × va_E), W1[k9]? = some x → x.1 ≤ H.size := fun k9 x hx => by
      rw [← hW1] at hx
      by_cases hl : k9 < (X ++ va_pl L f).length
      · rw [List.getElem?_append_left hl] at hx
        exact Nat.le_of_lt ((hP k9 x hx).lt)
      · rw [List.getElem?_append_right (by omega)] at hx
        have h0 : k9 - (X ++ va_pl L f).length < 1 := (List.getElem?_eq_some_iff.mp hx).1
        rw [show k9 - (X ++ va_pl L f).length = 0 by omega] at hx
        cases hx
        exact Nat.le_refl _
    have hr : ∀ (k9 : Nat) (x : Nat × va_E), (((List.range n.toNatClampNeg).map (fun i => H.size + 1 + i)).map (fun a => ((a, .inl (cy, z)) : Nat × va_E)))[k9]? = some x → x.1 = H.size + 1 + k9 := fun k9 x hx => by
      rw [List.getElem?_map, List.getElem?_map] at hx
      by_cases h9 : k9 < n.toNatClampNeg
      · rw [List.getElem?_range h9] at hx
        cases hx
        rfl
      · have hn0 : (List.range n.toNatClampNeg)[k9]? = none := List.getElem?_eq_none (by rw [List.length_range]; omega)
        rw [hn0] at hx
        cases hx
    refine ⟨fun i j x y hi hj hxy => ?_, fun k9 x hx => ?_⟩
    · by_cases h1 : i < W1.length <;> by_cases h2 : j < W1.length
      · rw [List.getElem?_append_left h1] at hi
        rw [List.getElem?_append_left h2] at hj
        exact hD1.1 i j x y hi hj hxy
      · rw [List.getElem?_append_left h1] at hi
        rw [List.getElem?_append_right (by omega)] at hj
        have := hle _ _ hi
        have := hr _ _ hj
        omega
      · rw [List.getElem?_append_right (by omega)] at hi
        rw [List.getElem?_append_left h2] at hj
        have := hle _ _ hj
        have := hr _ _ hi
        omega
      · rw [List.getElem?_append_right (by omega)] at hi hj
        have := hr _ _ hi
        have := hr _ _ hj
        omega
    · by_cases h1 : k9 < W1.length
      · rw [List.getElem?_append_left h1] at hx
        exact hD1.2 k9 x hx
      · rw [List.getElem?_append_right (by omega)] at hx
        have := hr _ _ hx
        exact hA _ (by have := hS.1; omega)
  have hAr : ArrOfT s cA (.array ty) := fun N9 z9 => by
    obtain ⟨-, k9, hk9, cm9, hkk9⟩ := (hO 0 0 0).1
    exact ⟨(fun q hq => by cases hq), k9, hk9, cm9, hkk9⟩
  have hK2 : va_K D cl (tys ++ [(cA, .array ty)]) s := ⟨hK.1, fun k9 x hx => by
    by_cases hl : k9 < tys.length
    · rw [List.getElem?_append_left hl] at hx
      exact hK.2 k9 x hx
    · rw [List.getElem?_append_right (by omega)] at hx
      have h0 : k9 - tys.length < 1 := (List.getElem?_eq_some_iff.mp hx).1
      rw [show k9 - tys.length = 0 by omega] at hx
      cases hx
      exact ⟨hAr, fA⟩⟩
  obtain ⟨t, a1, b1⟩ := kk H.size (fun i => H.size + 1 + i) cA F.heap (fun i j _ _ h => by have h9 : H.size + 1 + i = H.size + 1 + j := h; omega) hnl hK2 (by rw [← vr_rows hnm]; exact vr_lay hP2) (by rw [← vr_rows hnm]; exact vr_layD hD2) ⟨by rw [f1]; have := hS.1; omega, fun x h1 h2 => (hold x (Nat.lt_of_lt_of_le h1 hS.1)).trans (hS.2.1 x h1 h2), hS.2.2⟩ F rfl X'
  refine ⟨t, step t ?_, b1⟩
  have e : T.heap.size = H.size := by rw [hT]
  rw [e]
  exact a1
end VGM
/-! ===== END ===== -/

/-! ===== BEGIN exceptions that leave a method, and their catching by the caller (launches without stack traces) ===== -/
section VXA
/-! The laws vx_back, vx_callV, vx_callS, vx_callSW, vx_throw0, vx_throwS follow proofs of the library, with one case more: JvmDerived/Free/Laws.lean (Back.of_free), Shelf42/LK1.lean (callV, callS), Shelf/KitTraced.lean (throwNew0V, throwNewS). -/
/-- where a method has thrown q: the class by its name, the cell, what was written, the world -/
def vx_T (XC : String → State → State → Prop) (st : State) (q : Addr) (t : State) (mc ms : Nat) (free : Addr → Prop) : Prop :=
  ∃ (E : String) (ce : Cell) (L : List Loc), XC E st t ∧ t.heap[q]? = some ce ∧ ce.vm = .none ∧ st.vm.findClass E = some ce.cls ∧ st.WarmedH t.vm ∧ st.sameButNew ({ t with vm := st.vm } : State) L mc ms ∧ ∀ z ∈ L, free z.base
def vx_Q (Qc : Array Value → State → Outcome → State → Prop) (XC : String → State → State → Prop) (mc ms : Nat) (free : Addr → Prop) : Array Value → State → Outcome → State → Prop := fun a st o t =>
  (Qc a st o t ∧ ∃ L, FrameEnd st o t L mc ms ∧ ∀ q ∈ L, free q.base) ∨ ∃ q, o = .threw q ∧ vx_T XC st q t mc ms free
/-- a callee that returns or throws -/
def vx_Met (l : Launch) (y : MethodName) (ws : List Cond) (rm : Room) (Pc : Array Value → State → Prop) (Qc : Array Value → State → Outcome → State → Prop) (XC : String → State → State → Prop) (mc ms : Nat) (free : Addr → Prop) : Prop :=
  MetFree l y (headSpec ws rm) Pc (fun _ _ _ _ _ => True) (vx_Q Qc XC mc ms free)
def vx_Post (XC : String → State → State → Prop) (mc ms : Nat) (free : Addr → Prop) : Pt → Array Value → Addr → Pt → Prop := fun A a q B =>
  ∃ (g : JFrame) (mk : MethodId) (t : State) (L : List Loc) (E : String) (ce : Cell), B.U.heap = t.heap ∧ B.U.vm = t.vm ∧ XC E (A.U.calling g mk a) t ∧ t.heap[q]? = some ce ∧ ce.vm = .none ∧ A.U.vm.findClass E = some ce.cls ∧ B.locs = A.locs ++ L ∧ (∀ z ∈ L, free z.base) ∧ B.cells = A.cells + mc ∧ B.slots = A.slots + ms
def vx_Back (l : Launch) (R : Room) (p : Program) (e : Env) (below : List Frame) (s : State) (sargs : Array Value) (y : MethodName) (len W9 : Nat)
    (Pre : Pt → Array Value → Prop) (Post : Pt → Array Value → Option Value → Pt → Prop) (PostX : Pt → Array Value → Addr → Pt → Prop) : Prop :=
  ∀ (m : MethodId) (meth : Method) (c : Code) (A : Pt) (g : JFrame) (ig : Instr) (mk : MethodId) (a : Array Value),
    Stand p l e R s m sargs below meth c A.U A.locs A.cells A.slots → g.method = m → g.locals.size = c.maxLocals → decode c.code g.pc = .ok (ig, len) →
    2 * g.monitorRoom + (g.stack.map fun v => v.category).sum ≤ W9 → A.U.methodNamed? y = some mk → Pre A a →
    (∃ (v : Option Value) (B : Pt), Stand p l e R s m sargs below meth c B.U B.locs B.cells B.slots ∧ Post A a v B ∧
      Steps p.tables e below (doInvoke e (A.U.setTop g) [] mk a).1 (B.U.setTop { g with pc := g.pc + len, stack := v.toList ++ g.stack })) ∨
    (∃ (q : Addr) (B : Pt), Stand p l e R s m sargs below meth c B.U B.locs B.cells B.slots ∧ PostX A a q B ∧
      Steps p.tables e below (doInvoke e (A.U.setTop g) [] mk a).1 ((B.U.setTop g).pushFrame (.throwing q)))
section Payer
variable {l : Launch} {R : Room} {p : Program} {e : Env} {below : List Frame} {s : State} {sargs : Array Value} {y : MethodName} {len W9 : Nat}
theorem vx_back {ws : List Cond} {rm : Room} {Pc : Array Value → State → Prop} {Qc : Array Value → State → Outcome → State → Prop} {XC : String → State → State → Prop} {mc ms : Nat} {free : Addr → Prop} {bytes : ByteArray} {maxL : Nat} {ret : Option FieldType}
    (hM : vx_Met l y ws rm Pc Qc XC mc ms free) (hblind : FrameBlind Pc) (hrc : rm.cells = mc) (hrs : rm.slots = ms)
    (hframes : rm.frames + 1 ≤ R.frames) (hlocals : W9 + (maxL + 11) + rm.locals ≤ R.locals)
    (hws : ∀ w ∈ ws, ∀ a' U, s.WarmedH U.vm → w.before a' U = true) (hcode : Cond.code y bytes maxL ret ∈ ws) (hinit : ∀ a' U, s.WarmedH U.vm → (Cond.initialized y.cls).before a' U = true) :
    vx_Back l R p e below s sargs y len W9 (PreOf R mc ms Pc) (PostOf Qc mc ms free) (vx_Post XC mc ms free) := by
  intro m meth c A g ig mk a X hg hsize hdg hW hn hp
  have h1 : (headSpec ws rm).pre.before a A.U = true := atoms_intro fun w hw => hws w hw _ _ X.warmed
  have h2 : (Cond.code y bytes maxL ret).before a A.U = true := hws _ hcode _ _ X.warmed
  have h3 : (Cond.initialized y.cls).before a A.U = true := hinit _ _ X.warmed
  have h4 : A.cells + (headSpec ws rm).room.cells ≤ R.cells := by rw [show (headSpec ws rm).room.cells = mc from hrc]; exact hp.1
  have h5 : A.slots + (headSpec ws rm).room.slots ≤ R.slots := by rw [show (headSpec ws rm).room.slots = ms from hrs]; exact hp.2.1
  have hPc : Pc a (A.U.calling g mk a) := hblind _ _ _ _ hp.2.2
  obtain ⟨U, Ls, c0, s0⟩ := A
  dsimp only [Pt.U, Pt.locs, Pt.cells, Pt.slots] at h1 h2 h3 h4 h5 X hn hPc ⊢
  obtain ⟨methY, cY, hmY, hcY, -, hlY, -, -, -, -⟩ := Cond.code_spec hn h2
  obtain ⟨kY, hkY, -⟩ := className_of_methodNamed hn
  have hinitY : kY.init = .initialized := Cond.initialized_spec (findClass_of_methodNamed hn) hkY h3
  have h : At U g.method c below := by rw [hg]; exact X.here
  have hlocals9 : W9 + (maxL + 11) + (headSpec ws rm).room.locals ≤ R.locals := hlocals
  have happ : (headSpec ws rm).appliesLoose y e.platform (U.calling g mk a) = true :=
    Spec.appliesLoose_calling (g := g) h hdg hn hkY hinitY
      (X.room_calling (g := g) (R' := (headSpec ws rm).room) hsize hmY hcY hframes (by rw [hlY]; omega) h4 h5) h1
  obtain ⟨mid, hmid⟩ := h.above
  have hfr : (U.setTop g).frames = (.java g :: mid) ++ below := by rw [State.frames_setTop' g h.top, hmid]; rfl
  obtain ⟨o, s₂, hsteps, -, hend, hq⟩ := Steps.callFree hM p X.admits X.cas X.clock (acts := []) hfr happ hPc trivial
  have hq' : vx_Q Qc XC mc ms free a (U.calling g mk a) o s₂ := hq
  rw [State.frames_setTop' g h.top] at hend
  obtain ⟨g₀, hg0⟩ := Option.isSome_iff_exists.mp h.top
  obtain ⟨r, hr⟩ := State.topJava?_eq_some.mp hg0
  have hr' : (({ U with heap := s₂.heap, slotsUsed := s₂.slotsUsed } : State).setVm s₂.vm).frames = .java g₀ :: r := hr
  rcases hq' with ⟨hqc, L, hfe, hL⟩ | ⟨q, rfl, E, ce, L, hx, hce, hcv, hcl, hW₂, hsm, hL⟩
  · obtain ⟨⟨v, rfl⟩, hW₂, e2, q2, q3, q4, q5, q6⟩ := id hfe
    have e3 : s₂ = ({ (U.calling g mk a).setFrames s₂.frames with heap := s₂.heap, slotsUsed := s₂.slotsUsed } : State).setVm s₂.vm := by
      have : s₂ = ({ s₂ with vm := (U.calling g mk a).vm } : State).setVm s₂.vm := rfl
      rw [e2] at this
      exact this
    obtain ⟨c₂, i₂, len₂, hc₂, hd₂, hf₂⟩ := hend
    have hW' : U.WarmedH s₂.vm := hW₂
    have hcc : c₂ = c := by
      have h1 : s₂.code? g.method = U.code? g.method := by
        rw [State.code?_eq, State.code?_eq, hW'.alike.method?]
      exact Option.some.inj (hc₂.symm.trans (h1.trans h.code))
    subst hcc
    have hlen : len₂ = len := by rw [hdg] at hd₂; cases hd₂; rfl
    subst hlen
    have hs₂ : s₂ = (({ U with heap := s₂.heap, slotsUsed := s₂.slotsUsed } : State).setVm s₂.vm).setTop { g with pc := g.pc + len₂, stack := v.toList ++ g.stack } := by
      refine e3.trans ?_
      rw [hf₂, State.calling_eq h.top, State.setFrames_setFrames, State.setTop_of_frames _ hr', hr]
      rfl
    have hsame : U.sameButNew ({ U with heap := s₂.heap, slotsUsed := s₂.slotsUsed } : State) L mc ms := by
      refine ⟨?_, q2, q3, q4, q5, q6⟩
      obtain ⟨t, ht, -⟩ := State.frames_cons hr
      show ({ U with heap := s₂.heap, slotsUsed := s₂.slotsUsed } : State) = { U.setFrames U.frames with heap := s₂.heap, slotsUsed := s₂.slotsUsed }
      rw [State.setFrames_self ht]
    subst hg
    refine Or.inl ⟨v, ⟨(({ U with heap := s₂.heap, slotsUsed := s₂.slotsUsed } : State).setVm s₂.vm), Ls ++ L, c0 + mc, s0 + ms⟩,
      ⟨X.admits, X.cas, X.clock, X.frames, X.room, X.hears, X.method, X.code, (X.here.setHeapUsed s₂.heap s₂.slotsUsed).setVm hW'.alike, X.tail, State.WarmedH.trans X.warmed hW', X.limits, X.bytes, X.same.trans (hsame.setVm s.vm)⟩,
      ⟨g, mk, s₂, L, rfl, rfl, hqc, rfl, hL, rfl, rfl⟩, ?_⟩
    show Steps p.tables e below _ ((({ U with heap := s₂.heap, slotsUsed := s₂.slotsUsed } : State).setVm s₂.vm).setTop { g with pc := g.pc + len₂, stack := v.toList ++ g.stack })
    rw [← hs₂]
    exact hsteps
  · obtain ⟨e2, q2, q3, q4, q5, q6⟩ := id hsm
    have e3 : s₂ = ({ (U.calling g mk a).setFrames s₂.frames with heap := s₂.heap, slotsUsed := s₂.slotsUsed } : State).setVm s₂.vm := by
      have : s₂ = ({ s₂ with vm := (U.calling g mk a).vm } : State).setVm s₂.vm := rfl
      rw [e2] at this
      exact this
    have hf₂ : s₂.frames = .throwing q :: .java g :: U.frames.tail := hend
    have hW' : U.WarmedH s₂.vm := hW₂
    have hs₂ : s₂ = ((({ U with heap := s₂.heap, slotsUsed := s₂.slotsUsed } : State).setVm s₂.vm).setTop g).pushFrame (.throwing q) := by
      refine e3.trans ?_
      rw [hf₂, State.calling_eq h.top, State.setFrames_setFrames, State.pushFrame, State.frames_setTop _ hr', State.setTop_of_frames _ hr', State.setFrames_setFrames, hr]
      rfl
    have hsame : U.sameButNew ({ U with heap := s₂.heap, slotsUsed := s₂.slotsUsed } : State) L mc ms := by
      refine ⟨?_, q2, q3, q4, q5, q6⟩
      obtain ⟨t, ht, -⟩ := State.frames_cons hr
      show ({ U with heap := s₂.heap, slotsUsed := s₂.slotsUsed } : State) = { U.setFrames U.frames with heap := s₂.heap, slotsUsed := s₂.slotsUsed }
      rw [State.setFrames_self ht]
    subst hg
    refine Or.inr ⟨q, ⟨(({ U with heap := s₂.heap, slotsUsed := s₂.slotsUsed } : State).setVm s₂.vm), Ls ++ L, c0 + mc, s0 + ms⟩,
      ⟨X.admits, X.cas, X.clock, X.frames, X.room, X.hears, X.method, X.code, (X.here.setHeapUsed s₂.heap s₂.slotsUsed).setVm hW'.alike, X.tail, State.WarmedH.trans X.warmed hW', X.limits, X.bytes, X.same.trans (hsame.setVm s.vm)⟩,
      ⟨g, mk, s₂, L, E, ce, rfl, rfl, hx, hce, hcv, hcl, rfl, hL, rfl, rfl⟩, ?_⟩
    show Steps p.tables e below _ (((({ U with heap := s₂.heap, slotsUsed := s₂.slotsUsed } : State).setVm s₂.vm).setTop g).pushFrame (.throwing q))
    rw [← hs₂]
    exact hsteps
end Payer
section Calls
variable {p : Program} {l : Launch} {e : Env} {R : Room} {s : State} {m : MethodId} {args : Array Value} {below : List Frame} {meth : Method} {c : Code} {T : State} {locs : List Loc} {cells slots : Nat}
theorem vx_callV (X : Stand p l e R s m args below meth c T locs cells slots) (hexec : p.tables.exec = Jvm.exec) {own C : String} {index : Nat} {y : MethodName} {bytes : ByteArray} {maxL : Nat} {ret : Option FieldType}
    (hown : s.vm.findClass own = some m.cls) (hlink : (Cond.methodLink own index y).before args s = true) (hinst : (Cond.instanceMethod y).before args s = true) (hsel : (Cond.selects C y y).before args s = true)
    (hcode : (Cond.code y bytes maxL ret).before args s = true) (hy : y.cls ≠ "java/lang/invoke/MethodHandle" ∧ y.cls ≠ "java/lang/invoke/VarHandle")
    {W9 : Nat} {Pre : Pt → Array Value → Prop} {Post : Pt → Array Value → Option Value → Pt → Prop} {PostX : Pt → Array Value → Addr → Pt → Prop} (hK : vx_Back l R p e below s args y 3 W9 Pre Post PostX)
    {b : Addr} {cellB : Cell} (hcell : T.heap[b]? = some cellB) (hobj : cellB.vm.isStatics = false) (hcls : s.vm.findClass C = some cellB.cls)
    {g : JFrame} (hg : g.method = m) (hsize : g.locals.size = c.maxLocals) {argsL rest : List Value} (hlen : ∀ sig, parseMethodDescriptor y.desc = some sig → argsL.length = sig.parameters.length)
    (hstack : g.stack = argsL.reverse ++ .ref b :: rest) (hW : 2 * g.monitorRoom + (rest.map fun v => v.category).sum ≤ W9) (hdg : decode c.code g.pc = .ok (.invokevirtual index, 3))
    (hpre : ∀ vm₁, s.WarmedH vm₁ → Pre ⟨T.setVm vm₁, locs, cells, slots⟩ (Value.ref b :: argsL).toArray) :
    (∃ (v : Option Value) (vm₁ : Vm) (B : Pt), s.WarmedH vm₁ ∧ Stand p l e R s m args below meth c B.U B.locs B.cells B.slots ∧ Post ⟨T.setVm vm₁, locs, cells, slots⟩ (Value.ref b :: argsL).toArray v B ∧
      ∀ target, Steps p.tables e below (B.U.setTop { g with pc := g.pc + 3, stack := v.toList ++ rest }) target → Steps p.tables e below (T.setTop g) target) ∨
    (∃ (q : Addr) (vm₁ : Vm) (B : Pt), s.WarmedH vm₁ ∧ Stand p l e R s m args below meth c B.U B.locs B.cells B.slots ∧ PostX ⟨T.setVm vm₁, locs, cells, slots⟩ (Value.ref b :: argsL).toArray q B ∧
      Steps p.tables e below (T.setTop g) ((B.U.setTop { g with stack := rest }).pushFrame (.throwing q))) := by
  obtain ⟨mk, methM, hnamed, hmethM, hstM, habM⟩ := Cond.instanceMethod_spec hinst
  obtain ⟨methM', cM, hmethM', -, -, -, -, -, -, hsigM⟩ := Cond.code_spec hnamed hcode
  cases hmethM.symm.trans hmethM'
  obtain ⟨c2, r2, m2, q1, q2, q3, q4, kP, hkP, hkPi⟩ := Cond.selects_spec hsel
  cases hcls.symm.trans q1
  cases (State.methodFound?_of_named hnamed hy).symm.trans q2
  cases hnamed.symm.trans q3
  have hselP : selectMethod e.platform s.vm cellB.cls mk = .method mk := by rw [Launch.admits_selectMethod X.admits]; exact q4
  obtain ⟨vm₁, X₁, hstep₁⟩ := X.invokevirtual hexec hown hlink hnamed hmethM hstM hkP hkPi hy (a := b) (cell := cellB) hcell
    (fun z h => by rw [h] at hobj; cases hobj) hselP hmethM habM hkP hkPi (g := g) hg (argsL := argsL) (rest := rest) (hlen _ hsigM) hstack hdg
  rcases hK m meth c ⟨T.setVm vm₁, locs, cells, slots⟩ { g with stack := rest } (.invokevirtual index) mk (Value.ref b :: argsL).toArray X₁ hg hsize hdg hW (X₁.named hnamed) (hpre vm₁ X₁.warmed) with ⟨v, B, X', hpost, hsteps⟩ | ⟨q, B, X', hpost, hsteps⟩
  · exact Or.inl ⟨v, vm₁, B, X₁.warmed, X', hpost, fun target h => hstep₁ _ fun acts => by rw [doInvoke_state]; exact hsteps.trans h⟩
  · exact Or.inr ⟨q, vm₁, B, X₁.warmed, X', hpost, hstep₁ _ fun acts => by rw [doInvoke_state]; exact hsteps⟩
theorem vx_callS (X : Stand p l e R s m args below meth c T locs cells slots) (hexec : p.tables.exec = Jvm.exec) {own : String} {index : Nat} {y : MethodName} {bytes : ByteArray} {maxL : Nat} {ret : Option FieldType}
    (hown : s.vm.findClass own = some m.cls) (hlink : (Cond.methodLink own index y).before args s = true) (hstat : (Cond.static y).before args s = true) (hinit : (Cond.initialized y.cls).before args s = true)
    (hcode : (Cond.code y bytes maxL ret).before args s = true) (hy : y.cls ≠ "java/lang/invoke/MethodHandle" ∧ y.cls ≠ "java/lang/invoke/VarHandle")
    {W9 : Nat} {Pre : Pt → Array Value → Prop} {Post : Pt → Array Value → Option Value → Pt → Prop} {PostX : Pt → Array Value → Addr → Pt → Prop} (hK : vx_Back l R p e below s args y 3 W9 Pre Post PostX)
    {g : JFrame} (hg : g.method = m) (hsize : g.locals.size = c.maxLocals) {argsL rest : List Value} (hlen : ∀ sig, parseMethodDescriptor y.desc = some sig → argsL.length = sig.parameters.length)
    (hstack : g.stack = argsL.reverse ++ rest) (hW : 2 * g.monitorRoom + (rest.map fun v => v.category).sum ≤ W9) (hdg : decode c.code g.pc = .ok (.invokestatic index, 3))
    (hpre : ∀ vm₁, s.WarmedH vm₁ → Pre ⟨T.setVm vm₁, locs, cells, slots⟩ argsL.toArray) :
    (∃ (v : Option Value) (vm₁ : Vm) (B : Pt), s.WarmedH vm₁ ∧ Stand p l e R s m args below meth c B.U B.locs B.cells B.slots ∧ Post ⟨T.setVm vm₁, locs, cells, slots⟩ argsL.toArray v B ∧
      ∀ target, Steps p.tables e below (B.U.setTop { g with pc := g.pc + 3, stack := v.toList ++ rest }) target → Steps p.tables e below (T.setTop g) target) ∨
    (∃ (q : Addr) (vm₁ : Vm) (B : Pt), s.WarmedH vm₁ ∧ Stand p l e R s m args below meth c B.U B.locs B.cells B.slots ∧ PostX ⟨T.setVm vm₁, locs, cells, slots⟩ argsL.toArray q B ∧
      Steps p.tables e below (T.setTop g) ((B.U.setTop { g with stack := rest }).pushFrame (.throwing q))) := by
  obtain ⟨mk, hnamed⟩ := Cond.code_named hcode
  obtain ⟨methM, cM, hmethM, -, -, -, -, -, -, hsigM⟩ := Cond.code_spec hnamed hcode
  have hstatic : methM.isStatic = true := Cond.static_spec hnamed hmethM hstat
  obtain ⟨kP, hkP, -⟩ := className_of_methodNamed hnamed
  have hinitP : kP.init = .initialized := Cond.initialized_spec (findClass_of_methodNamed hnamed) hkP hinit
  obtain ⟨vm₁, X₁, hstep₁⟩ := X.invokestatic hexec hown hlink hnamed hmethM hstatic hkP hinitP hy (g := g) hg (argsL := argsL) (rest := rest) (hlen _ hsigM) hstack hdg
  rcases hK m meth c ⟨T.setVm vm₁, locs, cells, slots⟩ { g with stack := rest } (.invokestatic index) mk argsL.toArray X₁ hg hsize hdg hW (X₁.named hnamed) (hpre vm₁ X₁.warmed) with ⟨v, B, X', hpost, hsteps⟩ | ⟨q, B, X', hpost, hsteps⟩
  · exact Or.inl ⟨v, vm₁, B, X₁.warmed, X', hpost, fun target h => hstep₁ _ fun acts => by rw [doInvoke_state]; exact hsteps.trans h⟩
  · exact Or.inr ⟨q, vm₁, B, X₁.warmed, X', hpost, hstep₁ _ fun acts => by rw [doInvoke_state]; exact hsteps⟩
end Calls
theorem vx_cls {s : State} {T : State} {vm₁ : Vm} {E : String} {k : ClassId} (hW : s.WarmedH vm₁) (h : (T.setVm vm₁).vm.findClass E = some k) : s.vm.findClass E = some k := by
  have h1 : vm₁.findClass E = some k := h
  rw [hW.alike.findClass] at h1
  exact h1
/-- the method's frame g, with q thrown over it -/
def vx_W (p : Program) (l : Launch) (e : Env) (R : Room) (s : State) (m : MethodId) (args : Array Value) (below : List Frame) (meth : Method) (c : Code) (H : Heap) (locs : List Loc) (cells slots : Nat) (Q : State → Prop) (g : JFrame) (q : Addr) : Prop :=
  ∀ T : State, T.heap = H → Stand p l e R s m args below meth c T locs cells slots → ∃ t, Steps p.tables e below ((T.setTop g).pushFrame (.throwing q)) t ∧ Q t
def vx_Run (p : Program) (l : Launch) (e : Env) (R : Room) (s : State) (m : MethodId) (args : Array Value) (below : List Frame) (meth : Method) (c : Code) (H : Heap) (locs : List Loc) (cells slots mc ms : Nat) (g : JFrame) (rest : List Value) (Qa : State → Outcome → State → Prop) (XC : String → State → State → Prop) (free : Addr → Prop) : Prop :=
  ∀ T : State, T.heap = H → Stand p l e R s m args below meth c T locs cells slots →
    (∃ (v : Option Value) (st₀ t T' : State) (L : List Loc), st₀.heap = H ∧ Stand p l e R s m args below meth c T' (locs ++ L) (cells + mc) (slots + ms) ∧ (∀ q ∈ L, free q.base) ∧ T'.heap = t.heap ∧ T'.vm = t.vm ∧ Qa st₀ (.returned v) t ∧
      Goes p e below T g T' { g with pc := g.pc + 3, stack := v.toList ++ rest }) ∨
    (∃ (q : Addr) (st₀ t T' : State) (L : List Loc) (E : String) (ce : Cell), st₀.heap = H ∧ Stand p l e R s m args below meth c T' (locs ++ L) (cells + mc) (slots + ms) ∧ (∀ z ∈ L, free z.base) ∧ T'.heap = t.heap ∧ T'.vm = t.vm ∧ XC E st₀ t ∧ t.heap[q]? = some ce ∧ ce.vm = .none ∧ s.vm.findClass E = some ce.cls ∧
      Steps p.tables e below (T.setTop g) ((T'.setTop { g with stack := rest }).pushFrame (.throwing q)))
def vx_X {S : Type} (px : S → Prop) (B : String → S → State → Prop) (A : Nat → Prop) : String → State → State → Prop := fun E st t => ∃ u : S, px u ∧ B E u t ∧ va_F A st t
section Runs
variable {p : Program} {l : Launch} {e : Env} {R : Room} {s : State} {m : MethodId} {args : Array Value} {below : List Frame} {meth : Method} {c : Code} {H : Heap} {locs : List Loc} {cells slots : Nat}
variable {y : MethodName} {bytes cc : ByteArray} {maxL nL mc ms n index : Nat} {ret : Option FieldType} {ws : List Cond} {rm : Room} {Pc : Array Value → State → Prop} {Qc : Array Value → State → Outcome → State → Prop} {XC : String → State → State → Prop} {free : Addr → Prop} {Ts : List Cond} {own C : String} {b : Addr} {As rest : List Value} {g : JFrame}
theorem vx_callBack (cb : CallB R s args own index y bytes maxL ret ws rm mc ms n) (hM : vx_Met l y ws rm Pc Qc XC mc ms free) (hbl : FrameBlind Pc) : vx_Back l R p e below s args y 3 8 (PreOf R mc ms Pc) (PostOf Qc mc ms free) (vx_Post XC mc ms free) := by
  obtain ⟨hrc, hrs, hfr, hlo, hws, hcw, -, hini, -⟩ := cb
  exact vx_back (bytes := bytes) (maxL := maxL) (ret := ret) hM hbl hrc hrs hfr hlo hws hcw (fun a' U hW => word_at hW (Or.inl (by first | rfl | simp [Cond.onTables, Cond.keeps, Cond.steady])) hini)
theorem vx_runV (S : CallFix p m c cc nL s args Ts own) (hM : vx_Met l y ws rm Pc Qc XC mc ms free) (cw : CallW R s args own C index y bytes maxL ret ws rm mc ms n) (hp : PreV s H C b Pc As)
    (hg : g.method = m) (hn : As.length = n) (hsize : g.locals.size = nL) (hstack : g.stack = As.reverse ++ .ref b :: rest) (hW : 2 * g.monitorRoom + (rest.map fun v => v.category).sum ≤ 8) (hdg : decode cc g.pc = .ok (.invokevirtual index, 3)) (hf : cells + mc ≤ R.cells ∧ slots + ms ≤ R.slots) :
    vx_Run p l e R s m args below meth c H locs cells slots mc ms g rest (Qc (Value.ref b :: As).toArray) XC free := by
  have hK : vx_Back l R p e below s args y 3 8 (PreOf R mc ms Pc) (PostOf Qc mc ms free) (vx_Post XC mc ms free) := vx_callBack cw.1 hM hp.1
  obtain ⟨⟨-, -, -, -, -, -, hcode, -, hy, hlen, hl⟩, hin, hse⟩ := cw
  obtain ⟨hx, hb, hml, ho, -⟩ := S
  obtain ⟨-, ⟨cellB, hcB, hoB, hclB⟩, hPc⟩ := hp
  intro T hT X
  rcases vx_callV X hx (C := C) (bytes := bytes) (maxL := maxL) (ret := ret) ho hl hin hse hcode hy hK (by rw [hT]; exact hcB) hoB hclB hg (hsize.trans hml.symm) (argsL := As) (rest := rest) (fun sig h => hn.trans (hlen sig h)) hstack hW (by rw [hb]; exact hdg)
    (fun vm₁ hW₁ => ⟨hf.1, hf.2, hPc (T.setVm vm₁) hT hW₁⟩) with ⟨v, vm₁, ⟨U', l2, c2, s2⟩, hW₁, X', ⟨g', mk, t, L, e1, e2, hq, h1, hL, h2, h3⟩, st⟩ | ⟨q, vm₁, ⟨U', l2, c2, s2⟩, hW₁, X', ⟨g', mk, t, L, E, ce, e1, e2, hq, hce, hcv, hcl, h1, hL, h2, h3⟩, st⟩
  · dsimp only [Pt.U, Pt.locs, Pt.cells, Pt.slots] at X' e1 e2 h1 h2 h3 st
    subst h1; subst h2; subst h3
    exact Or.inl ⟨v, (T.setVm vm₁).calling g' mk (Value.ref b :: As).toArray, t, U', L, hT, X', hL, e1, e2, hq, st⟩
  · dsimp only [Pt.U, Pt.locs, Pt.cells, Pt.slots] at X' e1 e2 h1 h2 h3 st hcl
    subst h1; subst h2; subst h3
    exact Or.inr ⟨q, (T.setVm vm₁).calling g' mk (Value.ref b :: As).toArray, t, U', L, E, ce, hT, X', hL, e1, e2, hq, hce, hcv, vx_cls hW₁ hcl, st⟩
theorem vx_runS (S : CallFix p m c cc nL s args Ts own) (hM : vx_Met l y ws rm Pc Qc XC mc ms free) (cw : CallB R s args own index y bytes maxL ret ws rm mc ms n ∧ (Cond.static y).before args s = true) (hp : PreS s H Pc As)
    (hg : g.method = m) (hn : As.length = n) (hsize : g.locals.size = nL) (hstack : g.stack = As.reverse ++ rest) (hW : 2 * g.monitorRoom + (rest.map fun v => v.category).sum ≤ 8) (hdg : decode cc g.pc = .ok (.invokestatic index, 3)) (hf : cells + mc ≤ R.cells ∧ slots + ms ≤ R.slots) :
    vx_Run p l e R s m args below meth c H locs cells slots mc ms g rest (Qc As.toArray) XC free := by
  have hK : vx_Back l R p e below s args y 3 8 (PreOf R mc ms Pc) (PostOf Qc mc ms free) (vx_Post XC mc ms free) := vx_callBack cw.1 hM hp.1
  obtain ⟨⟨-, -, -, -, -, -, hcode, hini, hy, hlen, hl⟩, hstt⟩ := cw
  obtain ⟨hx, hb, hml, ho, -⟩ := S
  intro T hT X
  rcases vx_callS X hx (bytes := bytes) (maxL := maxL) (ret := ret) ho hl hstt hini hcode hy hK hg (hsize.trans hml.symm) (argsL := As) (rest := rest) (fun sig h => hn.trans (hlen sig h)) hstack hW (by rw [hb]; exact hdg)
    (fun vm₁ hW₁ => ⟨hf.1, hf.2, hp.2 (T.setVm vm₁) hT hW₁⟩) with ⟨v, vm₁, ⟨U', l2, c2, s2⟩, hW₁, X', ⟨g', mk, t, L, e1, e2, hq, h1, hL, h2, h3⟩, st⟩ | ⟨q, vm₁, ⟨U', l2, c2, s2⟩, hW₁, X', ⟨g', mk, t, L, E, ce, e1, e2, hq, hce, hcv, hcl, h1, hL, h2, h3⟩, st⟩
  · dsimp only [Pt.U, Pt.locs, Pt.cells, Pt.slots] at X' e1 e2 h1 h2 h3 st
    subst h1; subst h2; subst h3
    exact Or.inl ⟨v, (T.setVm vm₁).calling g' mk As.toArray, t, U', L, hT, X', hL, e1, e2, hq, st⟩
  · dsimp only [Pt.U, Pt.locs, Pt.cells, Pt.slots] at X' e1 e2 h1 h2 h3 st hcl
    subst h1; subst h2; subst h3
    exact Or.inr ⟨q, (T.setVm vm₁).calling g' mk As.toArray, t, U', L, E, ce, hT, X', hL, e1, e2, hq, hce, hcv, vx_cls hW₁ hcl, st⟩
end Runs
section Rows
variable {p : Program} {l : Launch} {e : Env} {R : Room} {s : State} {m : MethodId} {args : Array Value} {below : List Frame} {meth : Method} {c : Code} {H : Heap} {locs : List Loc} {cells slots : Nat} {Q : State → Prop}
variable {mc ms : Nat} {free : Addr → Prop} {A0 A1 : Nat → Prop} {H0 : Heap} {a : Array Value} {pc : Nat} {ls : Array Slot} {st0 rest : List Value}
theorem vx_keep {st₀ t T' : State} {L : List Loc} (h0 : st₀.heap = H) (e1 : T'.heap = t.heap) (hS : va_S A0 H0 H locs) (hA : ∀ q, q < H.size → A1 q → A0 q) (hf : ∀ q, free q → A0 q) (hL : ∀ q ∈ L, free q.base) (hF : va_F A1 st₀ t) :
    H.size ≤ T'.heap.size ∧ (∀ q : Nat, q < H.size → ¬ A1 q → T'.heap[q]? = H[q]?) ∧ va_S A0 H0 T'.heap (locs ++ L) := by
  obtain ⟨hz, hk⟩ := hF
  rw [h0] at hz hk
  exact ⟨by rw [e1]; exact hz, fun q h1 h2 => by rw [e1]; exact hk q h1 h2,
    ⟨Nat.le_trans hS.1 (by rw [e1]; exact hz), fun q h1 h2 => by rw [e1, hk q (Nat.lt_of_lt_of_le h1 hS.1) (fun z => h2 (hA q (Nat.lt_of_lt_of_le h1 hS.1) z))]; exact hS.2.1 q h1 h2, fun q hq => by
      rcases List.mem_append.mp hq with h | h
      · exact hS.2.2 q h
      · exact hf _ (hL q h)⟩⟩
theorem vx_calli {S SX : Type} {post : Int32 → S → Prop} {px : SX → Prop} {B : S → State → Prop} {BX : String → SX → State → Prop} {AX : Nat → Prop} (hr : vx_Run p l e R s m args below meth c H locs cells slots mc ms (F0 m pc ls st0) rest (va_Qi post B A1 a) (vx_X px BX AX) free) (hS : va_S A0 H0 H locs) (hA : ∀ q, q < H.size → A1 q → A0 q) (hf : ∀ q, free q → A0 q) (hAX : ∀ q, q < H.size → AX q → A0 q)
    (kx : ∀ (E : String) (ce : Cell) (q9 : Addr) (u : SX) (t : State) (H1 : Heap) (locs1 : List Loc), t.heap = H1 → s.vm.Alike t.vm → px u → BX E u t → H.size ≤ H1.size → (∀ q : Nat, q < H.size → ¬ AX q → H1[q]? = H[q]?) → va_S A0 H0 H1 locs1 → H1[q9]? = some ce → ce.vm = .none → s.vm.findClass E = some ce.cls → vx_W p l e R s m args below meth c H1 locs1 (cells + mc) (slots + ms) Q (F0 m pc ls rest) q9)
    (kk : ∀ (r : Int32) (u : S) (t : State) (H1 : Heap) (locs1 : List Loc), t.heap = H1 → s.vm.Alike t.vm → post r u → B u t → H.size ≤ H1.size → (∀ q : Nat, q < H.size → ¬ A1 q → H1[q]? = H[q]?) → va_S A0 H0 H1 locs1 → W p l e R s m args below meth c H1 locs1 (cells + mc) (slots + ms) Q (F0 m (pc + 3) ls (.int r :: rest))) : W p l e R s m args below meth c H locs cells slots Q (F0 m pc ls st0) := by
  intro T hT X
  rcases hr T hT X with ⟨v, st₀, t, T', L, h0, X', hL, e1, e2, ⟨⟨r, u, hv, hp, hb⟩, hF⟩, st⟩ | ⟨q, st₀, t, T', L, E, ce, h0, X', hL, e1, e2, ⟨u, hp, hb, hF⟩, hce, hcv, hcl, st⟩
  · cases hv
    obtain ⟨k1, k2, k3⟩ := vx_keep h0 e1 hS hA hf hL hF
    obtain ⟨t2, a1, b1⟩ := kk r u t T'.heap (locs ++ L) e1.symm (by rw [← e2]; exact X'.warmed.alike) hp hb k1 k2 k3 T' rfl X'
    exact ⟨t2, st t2 a1, b1⟩
  · obtain ⟨k1, k2, k3⟩ := vx_keep h0 e1 hS hAX hf hL hF
    obtain ⟨t2, a1, b1⟩ := kx E ce q u t T'.heap (locs ++ L) e1.symm (by rw [← e2]; exact X'.warmed.alike) hp hb k1 k2 k3 (by rw [e1]; exact hce) hcv hcl T' rfl X'
    exact ⟨t2, st.trans a1, b1⟩
theorem vx_calll {S SX : Type} {post : Int64 → S → Prop} {px : SX → Prop} {B : S → State → Prop} {BX : String → SX → State → Prop} {AX : Nat → Prop} (hr : vx_Run p l e R s m args below meth c H locs cells slots mc ms (F0 m pc ls st0) rest (va_Ql post B A1 a) (vx_X px BX AX) free) (hS : va_S A0 H0 H locs) (hA : ∀ q, q < H.size → A1 q → A0 q) (hf : ∀ q, free q → A0 q) (hAX : ∀ q, q < H.size → AX q → A0 q)
    (kx : ∀ (E : String) (ce : Cell) (q9 : Addr) (u : SX) (t : State) (H1 : Heap) (locs1 : List Loc), t.heap = H1 → s.vm.Alike t.vm → px u → BX E u t → H.size ≤ H1.size → (∀ q : Nat, q < H.size → ¬ AX q → H1[q]? = H[q]?) → va_S A0 H0 H1 locs1 → H1[q9]? = some ce → ce.vm = .none → s.vm.findClass E = some ce.cls → vx_W p l e R s m args below meth c H1 locs1 (cells + mc) (slots + ms) Q (F0 m pc ls rest) q9)
    (kk : ∀ (r : Int64) (u : S) (t : State) (H1 : Heap) (locs1 : List Loc), t.heap = H1 → s.vm.Alike t.vm → post r u → B u t → H.size ≤ H1.size → (∀ q : Nat, q < H.size → ¬ A1 q → H1[q]? = H[q]?) → va_S A0 H0 H1 locs1 → W p l e R s m args below meth c H1 locs1 (cells + mc) (slots + ms) Q (F0 m (pc + 3) ls (.long r :: rest))) : W p l e R s m args below meth c H locs cells slots Q (F0 m pc ls st0) := by
  intro T hT X
  rcases hr T hT X with ⟨v, st₀, t, T', L, h0, X', hL, e1, e2, ⟨⟨r, u, hv, hp, hb⟩, hF⟩, st⟩ | ⟨q, st₀, t, T', L, E, ce, h0, X', hL, e1, e2, ⟨u, hp, hb, hF⟩, hce, hcv, hcl, st⟩
  · cases hv
    obtain ⟨k1, k2, k3⟩ := vx_keep h0 e1 hS hA hf hL hF
    obtain ⟨t2, a1, b1⟩ := kk r u t T'.heap (locs ++ L) e1.symm (by rw [← e2]; exact X'.warmed.alike) hp hb k1 k2 k3 T' rfl X'
    exact ⟨t2, st t2 a1, b1⟩
  · obtain ⟨k1, k2, k3⟩ := vx_keep h0 e1 hS hAX hf hL hF
    obtain ⟨t2, a1, b1⟩ := kx E ce q u t T'.heap (locs ++ L) e1.symm (by rw [← e2]; exact X'.warmed.alike) hp hb k1 k2 k3 (by rw [e1]; exact hce) hcv hcl T' rfl X'
    exact ⟨t2, st.trans a1, b1⟩
theorem vx_callf {S SX : Type} {post : UInt32 → S → Prop} {px : SX → Prop} {B : S → State → Prop} {BX : String → SX → State → Prop} {AX : Nat → Prop} (hr : vx_Run p l e R s m args below meth c H locs cells slots mc ms (F0 m pc ls st0) rest (va_Qf post B A1 a) (vx_X px BX AX) free) (hS : va_S A0 H0 H locs) (hA : ∀ q, q < H.size → A1 q → A0 q) (hf : ∀ q, free q → A0 q) (hAX : ∀ q, q < H.size → AX q → A0 q)
    (kx : ∀ (E : String) (ce : Cell) (q9 : Addr) (u : SX) (t : State) (H1 : Heap) (locs1 : List Loc), t.heap = H1 → s.vm.Alike t.vm → px u → BX E u t → H.size ≤ H1.size → (∀ q : Nat, q < H.size → ¬ AX q → H1[q]? = H[q]?) → va_S A0 H0 H1 locs1 → H1[q9]? = some ce → ce.vm = .none → s.vm.findClass E = some ce.cls → vx_W p l e R s m args below meth c H1 locs1 (cells + mc) (slots + ms) Q (F0 m pc ls rest) q9)
    (kk : ∀ (r : UInt32) (u : S) (t : State) (H1 : Heap) (locs1 : List Loc), t.heap = H1 → s.vm.Alike t.vm → post r u → B u t → H.size ≤ H1.size → (∀ q : Nat, q < H.size → ¬ A1 q → H1[q]? = H[q]?) → va_S A0 H0 H1 locs1 → W p l e R s m args below meth c H1 locs1 (cells + mc) (slots + ms) Q (F0 m (pc + 3) ls (.float r :: rest))) : W p l e R s m args below meth c H locs cells slots Q (F0 m pc ls st0) := by
  intro T hT X
  rcases hr T hT X with ⟨v, st₀, t, T', L, h0, X', hL, e1, e2, ⟨⟨r, u, hv, hp, hb⟩, hF⟩, st⟩ | ⟨q, st₀, t, T', L, E, ce, h0, X', hL, e1, e2, ⟨u, hp, hb, hF⟩, hce, hcv, hcl, st⟩
  · cases hv
    obtain ⟨k1, k2, k3⟩ := vx_keep h0 e1 hS hA hf hL hF
    obtain ⟨t2, a1, b1⟩ := kk r u t T'.heap (locs ++ L) e1.symm (by rw [← e2]; exact X'.warmed.alike) hp hb k1 k2 k3 T' rfl X'
    exact ⟨t2, st t2 a1, b1⟩
  · obtain ⟨k1, k2, k3⟩ := vx_keep h0 e1 hS hAX hf hL hF
    obtain ⟨t2, a1, b1⟩ := kx E ce q u t T'.heap (locs ++ L) e1.symm (by rw [← e2]; exact X'.warmed.alike) hp hb k1 k2 k3 (by rw [e1]; exact hce) hcv hcl T' rfl X'
    exact ⟨t2, st.trans a1, b1⟩
theorem vx_calld {S SX : Type} {post : UInt64 → S → Prop} {px : SX → Prop} {B : S → State → Prop} {BX : String → SX → State → Prop} {AX : Nat → Prop} (hr : vx_Run p l e R s m args below meth c H locs cells slots mc ms (F0 m pc ls st0) rest (va_Qd post B A1 a) (vx_X px BX AX) free) (hS : va_S A0 H0 H locs) (hA : ∀ q, q < H.size → A1 q → A0 q) (hf : ∀ q, free q → A0 q) (hAX : ∀ q, q < H.size → AX q → A0 q)
    (kx : ∀ (E : String) (ce : Cell) (q9 : Addr) (u : SX) (t : State) (H1 : Heap) (locs1 : List Loc), t.heap = H1 → s.vm.Alike t.vm → px u → BX E u t → H.size ≤ H1.size → (∀ q : Nat, q < H.size → ¬ AX q → H1[q]? = H[q]?) → va_S A0 H0 H1 locs1 → H1[q9]? = some ce → ce.vm = .none → s.vm.findClass E = some ce.cls → vx_W p l e R s m args below meth c H1 locs1 (cells + mc) (slots + ms) Q (F0 m pc ls rest) q9)
    (kk : ∀ (r : UInt64) (u : S) (t : State) (H1 : Heap) (locs1 : List Loc), t.heap = H1 → s.vm.Alike t.vm → post r u → B u t → H.size ≤ H1.size → (∀ q : Nat, q < H.size → ¬ A1 q → H1[q]? = H[q]?) → va_S A0 H0 H1 locs1 → W p l e R s m args below meth c H1 locs1 (cells + mc) (slots + ms) Q (F0 m (pc + 3) ls (.double r :: rest))) : W p l e R s m args below meth c H locs cells slots Q (F0 m pc ls st0) := by
  intro T hT X
  rcases hr T hT X with ⟨v, st₀, t, T', L, h0, X', hL, e1, e2, ⟨⟨r, u, hv, hp, hb⟩, hF⟩, st⟩ | ⟨q, st₀, t, T', L, E, ce, h0, X', hL, e1, e2, ⟨u, hp, hb, hF⟩, hce, hcv, hcl, st⟩
  · cases hv
    obtain ⟨k1, k2, k3⟩ := vx_keep h0 e1 hS hA hf hL hF
    obtain ⟨t2, a1, b1⟩ := kk r u t T'.heap (locs ++ L) e1.symm (by rw [← e2]; exact X'.warmed.alike) hp hb k1 k2 k3 T' rfl X'
    exact ⟨t2, st t2 a1, b1⟩
  · obtain ⟨k1, k2, k3⟩ := vx_keep h0 e1 hS hAX hf hL hF
    obtain ⟨t2, a1, b1⟩ := kx E ce q u t T'.heap (locs ++ L) e1.symm (by rw [← e2]; exact X'.warmed.alike) hp hb k1 k2 k3 (by rw [e1]; exact hce) hcv hcl T' rfl X'
    exact ⟨t2, st.trans a1, b1⟩
theorem vx_callv {S SX : Type} {post : S → Prop} {px : SX → Prop} {B : S → State → Prop} {BX : String → SX → State → Prop} {AX : Nat → Prop} (hr : vx_Run p l e R s m args below meth c H locs cells slots mc ms (F0 m pc ls st0) rest (va_Qv post B A1 a) (vx_X px BX AX) free) (hS : va_S A0 H0 H locs) (hA : ∀ q, q < H.size → A1 q → A0 q) (hf : ∀ q, free q → A0 q) (hAX : ∀ q, q < H.size → AX q → A0 q)
    (kx : ∀ (E : String) (ce : Cell) (q9 : Addr) (u : SX) (t : State) (H1 : Heap) (locs1 : List Loc), t.heap = H1 → s.vm.Alike t.vm → px u → BX E u t → H.size ≤ H1.size → (∀ q : Nat, q < H.size → ¬ AX q → H1[q]? = H[q]?) → va_S A0 H0 H1 locs1 → H1[q9]? = some ce → ce.vm = .none → s.vm.findClass E = some ce.cls → vx_W p l e R s m args below meth c H1 locs1 (cells + mc) (slots + ms) Q (F0 m pc ls rest) q9)
    (kk : ∀ (u : S) (t : State) (H1 : Heap) (locs1 : List Loc), t.heap = H1 → s.vm.Alike t.vm → post u → B u t → H.size ≤ H1.size → (∀ q : Nat, q < H.size → ¬ A1 q → H1[q]? = H[q]?) → va_S A0 H0 H1 locs1 → W p l e R s m args below meth c H1 locs1 (cells + mc) (slots + ms) Q (F0 m (pc + 3) ls (rest))) : W p l e R s m args below meth c H locs cells slots Q (F0 m pc ls st0) := by
  intro T hT X
  rcases hr T hT X with ⟨v, st₀, t, T', L, h0, X', hL, e1, e2, ⟨⟨u, hv, hp, hb⟩, hF⟩, st⟩ | ⟨q, st₀, t, T', L, E, ce, h0, X', hL, e1, e2, ⟨u, hp, hb, hF⟩, hce, hcv, hcl, st⟩
  · cases hv
    obtain ⟨k1, k2, k3⟩ := vx_keep h0 e1 hS hA hf hL hF
    obtain ⟨t2, a1, b1⟩ := kk u t T'.heap (locs ++ L) e1.symm (by rw [← e2]; exact X'.warmed.alike) hp hb k1 k2 k3 T' rfl X'
    exact ⟨t2, st t2 a1, b1⟩
  · obtain ⟨k1, k2, k3⟩ := vx_keep h0 e1 hS hAX hf hL hF
    obtain ⟨t2, a1, b1⟩ := kx E ce q u t T'.heap (locs ++ L) e1.symm (by rw [← e2]; exact X'.warmed.alike) hp hb k1 k2 k3 (by rw [e1]; exact hce) hcv hcl T' rfl X'
    exact ⟨t2, st.trans a1, b1⟩
/-- caught by the row x of this method's table; the rows ahead don't take it -/
theorem vx_catch {own name : String} {E : String} {ce : Cell} {q : Addr} (hown : s.vm.findClass own = some m.cls) (pre : List ExceptionTableEntry) (x : ExceptionTableEntry) (suf : List ExceptionTableEntry) (hsplit : c.exceptionTable.toList = pre ++ x :: suf)
    (hpass : ∀ z ∈ pre, covers z pc = false ∨ (z.catchType ≠ 0 ∧ ∃ nm : String, (Cond.classLink own z.catchType nm).before args s = true ∧ va_Nc E nm s)) (hx : covers x pc = true) (h0 : x.catchType ≠ 0)
    (hlink : (Cond.classLink own x.catchType name).before args s = true) (hcast : (Cond.castable E name).before args s = true) (hcell : H[q]? = some ce) (hv : ce.vm = .none) (hcl : s.vm.findClass E = some ce.cls)
    (kk : W p l e R s m args below meth c H locs cells slots Q (F0 m x.handlerPc ls [.ref q])) : vx_W p l e R s m args below meth c H locs cells slots Q (F0 m pc ls rest) q := by
  intro T hT X
  have hpl : e.platform.magicAccessors = ({} : Platform).magicAccessors := by rw [X.admits.platform]
  obtain ⟨c3, c4, hc3, hc4, hasg⟩ := Cond.castable_spec hcast
  cases Option.some.inj (hc3.symm.trans hcl)
  obtain ⟨c5, hc5, hcl5⟩ := Cond.classLink_spec hown hlink e.platform hpl
  cases Option.some.inj (hc4.symm.trans hc5)
  obtain ⟨vm', X', st⟩ := X.thenCaughtThrough q (g := F0 m pc ls rest) rfl (Steps.refl _) (by rw [hT]; exact hcell) (by rw [hv]; rfl) (by obtain ⟨k9, h9, -⟩ := Vm.findClass_spec hcl; exact ⟨k9, h9⟩) pre x suf hsplit
    (fun z hz => by
      rcases hpass z hz with h | ⟨hz0, nm, hl1, hn1⟩
      · exact Or.inl h
      · obtain ⟨c6, hc6, hcl6⟩ := Cond.classLink_spec hown hl1 e.platform hpl
        obtain ⟨a8, b8, h1, h2, h3⟩ := hn1
        cases Option.some.inj (h1.symm.trans hcl)
        cases Option.some.inj (h2.symm.trans hc6)
        exact Or.inr ⟨hz0, _, hcl6, h3⟩) hx (Or.inr ⟨h0, c4, hcl5, hasg⟩)
  obtain ⟨t, a1, b1⟩ := kk (T.setVm vm') hT X'
  exact ⟨t, st.trans a1, b1⟩
end Rows
section Ends
variable {p : Program} {l : Launch} {e : Env} {R : Room} {s : State} {m : MethodId} {args : Array Value} {below : List Frame} {meth : Method} {c : Code} {H : Heap} {locs : List Loc} {cells slots : Nat} {Q : State → Prop}
variable {mc ms : Nat} {free : Addr → Prop} {A0 A1 : Nat → Prop} {H0 : Heap} {a : Array Value} {ls : Array Slot} {st0 rest : List Value}
variable {Qc : Array Value → State → Outcome → State → Prop} {XC : String → State → State → Prop}
/-- what a body that may throw owes at its end -/
def vx_MQ (below : List Frame) (Qc : Array Value → State → Outcome → State → Prop) (XC : String → State → State → Prop) (a : Array Value) (s : State) (mc ms : Nat) (free : Addr → Prop) : State → Prop := fun t =>
  ∃ o, t.status = .running ∧ Ended t below o ∧ vx_Q Qc XC mc ms free a s o t
theorem vx_ret {g : JFrame} {mc ms : Nat} (k : W p l e R s m args below meth c H locs cells slots (MQ below Qc args s mc ms free) g) : W p l e R s m args below meth c H locs cells slots (vx_MQ below Qc XC args s mc ms free) g := by
  intro T hT X
  obtain ⟨t, a1, o, b1, b2, b3, b4⟩ := k T hT X
  exact ⟨t, a1, o, b1, b2, Or.inl ⟨b3, b4⟩⟩
/-- not caught here: it goes on to the caller -/
theorem vx_widen {g : JFrame} {q : Addr} {k n : Nat} (h1 : cells ≤ k) (h2 : slots ≤ n) (kk : vx_W p l e R s m args below meth c H locs k n Q g q) : vx_W p l e R s m args below meth c H locs cells slots Q g q := fun T hT X => kk T hT (stand_widen X h1 h2)
theorem vx_out {pc : Nat} {E : String} {ce : Cell} {q : Addr} {mc ms : Nat} (hout : ∀ x ∈ c.exceptionTable.toList, covers x pc = false) (hlocks : meth.locks = false) (hcell : H[q]? = some ce) (hv : ce.vm = .none) (hcl : s.vm.findClass E = some ce.cls)
    (hx : ∀ t : State, t.heap = H → s.vm.Alike t.vm → XC E s t) (hf : ∀ z ∈ locs, free z.base) (hc : cells ≤ mc) (hs : slots ≤ ms) :
    vx_W p l e R s m args below meth c H locs cells slots (vx_MQ below Qc XC args s mc ms free) (F0 m pc ls rest) q := by
  intro T hT X
  obtain ⟨st1, hrun, hend, hW, hsm⟩ := X.leaveThrown q (g := F0 m pc ls rest) rfl rfl rfl hout hlocks
  have hcell9 : (T.setFrames (.throwing q :: below)).heap[q]? = some ce := by
    show T.heap[q]? = some ce
    rw [hT]; exact hcell
  exact ⟨_, st1, .threw q, hrun, hend, Or.inr ⟨q, rfl, E, ce, locs, hx _ hT hW.alike, hcell9, hv, hcl, hW, hsm.mono hc hs, hf⟩⟩
theorem vx_frame {U : State} {k n : Nat} (h : s.sameButNew ({ U with vm := s.vm } : State) locs k n) : s.heap.size ≤ U.heap.size ∧ ∀ q : Nat, q < s.heap.size → (∀ z ∈ locs, z.base ≠ q) → U.heap[q]? = s.heap[q]? := by
  obtain ⟨-, h2, -, -, -, h6⟩ := h
  refine ⟨h2, fun q hq hz => ?_⟩
  obtain ⟨c9, e1, e2, e3, e4⟩ := h6 q _ (Array.getElem?_eq_getElem hq)
  have hs : c9.slots = (s.heap[q]).slots := Array.ext_getElem? fun i => e4 i fun hm => hz _ hm rfl
  have h9 : c9 = s.heap[q] := by
    rw [hs] at e2
    exact e2
  have e5 : U.heap[q]? = some c9 := e1
  rw [e5, h9, Array.getElem?_eq_getElem hq]
/-- the words of a throw but the four that speak of the heap -/
def vx_no (w : Cond) : Bool := decide (w ≠ .isRef (.static Bundle.tN "UNASSIGNED_STACK" Bundle.steD)) && decide (w ≠ .isRef (.static Bundle.tN "SUPPRESSED_SENTINEL" Bundle.listD)) && decide (w ≠ .laysStatic Bundle.tN "UNASSIGNED_STACK" Bundle.steD) && decide (w ≠ .laysStatic Bundle.tN "SUPPRESSED_SENTINEL" Bundle.listD)
def vx_at0 (own : String) (ic : Nat) (X : String) (names : List String) : List Cond := (Bundle.ownAtoms0 own ic X names).filter vx_no
def vx_atS (own : String) (ic : Nat) (X : String) (names : List String) : List Cond := (Bundle.ownAtoms own ic X names).filter vx_no
/-- a word that the tables alone decide, or a good one -/
def vx_ot (w : Cond) : Bool := w.onTables || goodWord w
theorem vx_ot_at {args a' : Array Value} {s U : State} {w : Cond} (hW : s.WarmedH U.vm) (hvm : s.vm = U.vm) (hg : vx_ot w = true) (h : w.before args s = true) : w.before a' U = true := by
  simp only [vx_ot, Bool.or_eq_true] at hg
  rcases hg with hg | hg
  · exact va_tabs hg hvm h
  · exact word_at hW (good_of_word hg) h
/-- a list's words: the good ones out of the method's own list, the others by premises of their own -/
theorem vx_hat {args : Array Value} {s : State} {L B : List Cond} (h1 : ∀ w ∈ L.filter goodWord, w.before args s = true) (h2 : ∀ w ∈ L.filter (fun w => !goodWord w), w ∈ B) (h3 : ∀ w ∈ B, w.before args s = true) : ∀ w ∈ L, w.before args s = true := by
  intro w hw
  by_cases g : goodWord w = true
  · exact h1 w (List.mem_filter.mpr ⟨hw, g⟩)
  · refine h3 w (h2 w (List.mem_filter.mpr ⟨hw, ?_⟩))
    show (!goodWord w) = true
    cases hgw : goodWord w
    · rfl
    · exact absurd hgw g
theorem vx_c {args : Array Value} {s : State} {w : Cond} {B : List Cond} (h : w.before args s = true) (t : ∀ w ∈ B, w.before args s = true) : ∀ w' ∈ w :: B, w'.before args s = true := fun w' h' => (List.mem_cons.mp h').elim (fun e => by rw [e]; exact h) (t w')
theorem vx_n {args : Array Value} {s : State} : ∀ w ∈ ([] : List Cond), w.before args s = true := fun _ h => nomatch h
theorem vx_own {args : Array Value} {s : State} {L : List Cond} (h1 : ∀ w ∈ L.filter vx_no, w.before args s = true)
    (hU : (Cond.isRef (.static Bundle.tN "UNASSIGNED_STACK" Bundle.steD)).before args s = true) (hN : (Cond.isRef (.static Bundle.tN "SUPPRESSED_SENTINEL" Bundle.listD)).before args s = true)
    (lU : (Cond.laysStatic Bundle.tN "UNASSIGNED_STACK" Bundle.steD).before args s = true) (lN : (Cond.laysStatic Bundle.tN "SUPPRESSED_SENTINEL" Bundle.listD).before args s = true) : ∀ w ∈ L, w.before args s = true := by
  intro w hw
  by_cases e1 : w = .isRef (.static Bundle.tN "UNASSIGNED_STACK" Bundle.steD)
  · rw [e1]; exact hU
  · by_cases e2 : w = .isRef (.static Bundle.tN "SUPPRESSED_SENTINEL" Bundle.listD)
    · rw [e2]; exact hN
    · by_cases e3 : w = .laysStatic Bundle.tN "UNASSIGNED_STACK" Bundle.steD
      · rw [e3]; exact lU
      · by_cases e4 : w = .laysStatic Bundle.tN "SUPPRESSED_SENTINEL" Bundle.listD
        · rw [e4]; exact lN
        · exact h1 w (List.mem_filter.mpr ⟨hw, by unfold vx_no; rw [decide_eq_true e1, decide_eq_true e2, decide_eq_true e3, decide_eq_true e4]; rfl⟩)
/-- where a static field lies, its class's statics cell in H -/
def vx_L (C n d : String) (A : Nat → Prop) (U : State) (H : Heap) : Prop := ∃ (c : ClassId) (k : Class) (i : Nat) (f : Field) (a : Nat) (cell : Cell), U.vm.findClass C = some c ∧ U.fieldFound? C n d = some (c, k, i, f) ∧ f.isStatic = true ∧ k.statics = some a ∧ H[a]? = some cell ∧ cell.vm.isStatics = true ∧ cell.cls = c ∧ f.slot < cell.slots.size ∧ k.staticTypes[f.slot]? = some f.type ∧ ¬ A a
theorem vx_L.moved {C n d : String} {A : Nat → Prop} {u U : State} {H : Heap} (hvm : u.vm.Alike U.vm) (h : vx_L C n d A u H) : vx_L C n d A U H := by
  obtain ⟨c, k, i, f, a, cell, h1, h2, h3, h4, h5, h6, h7, h8, h9, h10⟩ := h
  obtain ⟨k', hi', he⟩ := State.fieldFound?_setVm hvm h2
  exact ⟨c, k', i, f, a, cell, by rw [hvm.findClass]; exact h1, hi', h3, by rw [he]; exact h4, h5, h6, h7, h8, by rw [he]; exact h9, h10⟩
theorem vx_L.kept {C n d : String} {A : Nat → Prop} {U : State} {H H1 : Heap} (h : vx_L C n d A U H) (hq : ∀ a : Nat, a < H.size → ¬ A a → H1[a]? = H[a]?) : vx_L C n d A U H1 := by
  obtain ⟨c, k, i, f, a, cell, h1, h2, h3, h4, h5, h6, h7, h8, h9, h10⟩ := h
  exact ⟨c, k, i, f, a, cell, h1, h2, h3, h4, by rw [hq a (Array.getElem?_eq_some_iff.mp h5).1 h10]; exact h5, h6, h7, h8, h9, h10⟩
theorem vx_L.narrow {C n d : String} {A B : Nat → Prop} {U : State} {H : Heap} (h : vx_L C n d A U H) (hAB : ∀ q, B q → A q) : vx_L C n d B U H := by
  obtain ⟨c, k, i, f, a, cell, h1, h2, h3, h4, h5, h6, h7, h8, h9, h10⟩ := h
  exact ⟨c, k, i, f, a, cell, h1, h2, h3, h4, h5, h6, h7, h8, h9, fun z => h10 (hAB _ z)⟩
theorem vx_L.word {C n d : String} {A : Nat → Prop} {s : State} {args : Array Value} (h : vx_L C n d A s s.heap) : (Cond.laysStatic C n d).before args s = true := by
  obtain ⟨c, k, i, f, a, cell, h1, h2, h3, h4, h5, h6, h7, h8, h9, -⟩ := h
  show (Cond.laysStatic C n d).holds args s none s [] = true
  exact Cond.laysStatic_of h1 h2 h3 h4 h5 h6 h7 h8 h9
/-- .. and what it holds: null or some reference -/
def vx_Zq (C n d : String) (A : Nat → Prop) (U : State) (H : Heap) : Prop := va_Zq C n d A U H ∧ vx_L C n d A U H
theorem vx_Zq.moved {C n d : String} {A : Nat → Prop} {u U : State} {H : Heap} (hvm : u.vm.Alike U.vm) (h : vx_Zq C n d A u H) : vx_Zq C n d A U H := ⟨va_Zq.moved hvm h.1, vx_L.moved hvm h.2⟩
theorem vx_Zq.kept {C n d : String} {A : Nat → Prop} {U : State} {H H1 : Heap} (h : vx_Zq C n d A U H) (hq : ∀ a : Nat, a < H.size → ¬ A a → H1[a]? = H[a]?) : vx_Zq C n d A U H1 := ⟨va_Zq.kept h.1 hq, vx_L.kept h.2 hq⟩
theorem vx_Zq.narrow {C n d : String} {A B : Nat → Prop} {U : State} {H : Heap} (h : vx_Zq C n d A U H) (hAB : ∀ q, B q → A q) : vx_Zq C n d B U H := ⟨va_Zq.narrow h.1 hAB, vx_L.narrow h.2 hAB⟩
theorem vx_Zqof {args : Array Value} {s : State} {C n d : String} {A : Nat → Prop} (hl : (Cond.laysStatic C n d).before args s = true) (hini : (Cond.initialized C).before args s = true) (h : (Cond.isRef (.static C n d)).before args s = true) (hA : ∀ a : Nat, a < s.heap.size → ¬ A a) : vx_Zq C n d A s s.heap := by
  refine ⟨va_Zqof hl hini h hA, ?_⟩
  obtain ⟨c, k, i, f, a, cell, h1, h2, h3, h4, h5, h6, h7, h8, h9⟩ := Cond.laysStatic_spec hl
  exact ⟨c, k, i, f, a, cell, h1, h2, h3, h4, h5, h6, h7, h8, h9, hA a (Array.getElem?_eq_some_iff.mp h5).1⟩
theorem vx_isRef {C n d : String} {v : Value} {A : Nat → Prop} {s : State} {args : Array Value} (h : va_Z C n d v A s s.heap) (hv : v.isRef = true) : (Cond.isRef (.static C n d)).before args s = true := by
  obtain ⟨cf, kf, fi, f, a, cell, h1, h2, h3, h4, h5, h6, h7, -⟩ := h
  have he : (Term.static C n d).eval args s none [] s = some v := by
    simp [Term.eval, State.fieldNamed?, h1, h2, h4, h5, h6, h7]
  simp only [Cond.before, Cond.holds, Cond.value, he]
  cases v <;> simp_all [Value.isRef]
theorem vx_isRefq {C n d : String} {A : Nat → Prop} {s : State} {args : Array Value} (h : va_Zq C n d A s s.heap) : (Cond.isRef (.static C n d)).before args s = true := by
  rcases h with h | ⟨t, h⟩
  · exact vx_isRef h rfl
  · exact vx_isRef h rfl
/-- the same frame, seen from here: as if the method were called anew in this heap -/
theorem vx_rebase {T : State} (X : Stand p l e R s m args below meth c T locs cells slots) {R' : Room} (hf : R'.frames ≤ R.frames) (hl : R'.locals ≤ R.locals) (hc : cells + R'.cells ≤ R.cells) (hs : slots + R'.slots ≤ R.slots) :
    Stand p l e R' ((T.setVm s.vm).setFrames (.invoking m args :: below)) m args below meth c T [] 0 0 := by
  have htop : (T.setVm s.vm).topJava?.isSome := X.here.top
  have hF : ((T.setVm s.vm).setFrames (.invoking m args :: below)).frames = .invoking m args :: below := State.frames_setFrames _ (State.cur_lt_of_top htop)
  obtain ⟨g₀, hg0⟩ := Option.isSome_iff_exists.mp htop
  obtain ⟨r, hr⟩ := State.topJava?_eq_some.mp hg0
  have hl9 : e.platform.stackLimits (T.setVm s.vm).me = e.platform.stackLimits s.me := X.limits
  have hb9 : (T.setVm s.vm).me.stackBytes = s.me.stackBytes := X.bytes
  refine ⟨X.admits, X.cas, X.clock, hF, ?_, X.hears, X.method, X.code, X.here, X.tail, X.warmed, ?_, ?_, ?_⟩
  · have h := X.room
    have hU : ((T.setVm s.vm).setFrames (.invoking m args :: below)).localsInUse = s.localsInUse := by
      rw [State.localsInUse_invoking hF (meth := meth) (c := c) X.method X.code, State.localsInUse_invoking X.frames X.method X.code]
    simp only [State.hasRoom, Bool.and_eq_true, decide_eq_true_eq] at h ⊢
    obtain ⟨⟨⟨⟨h1, h2, h3, h4, h5, h6⟩, h7⟩, h8⟩, h9⟩ := h
    rw [X.frames, List.length_cons] at h2 h3
    have q1 := X.heapSize
    have q2 := X.used
    simp only [hF, hU, List.length_cons, State.stackLimits_setFrames, State.stackBytes_setFrames, hl9, hb9]
    refine ⟨⟨⟨⟨by omega, by omega, by omega, by omega, by omega, h6⟩, ?_⟩, ?_⟩, X.book⟩
    · show T.heap.size + R'.cells ≤ e.platform.maxCells
      omega
    · show T.slotsUsed + R'.slots ≤ e.platform.maxSlots
      omega
  · rw [State.stackLimits_setFrames]; rfl
  · rw [State.stackBytes_setFrames]; rfl
  · refine ⟨?_, Nat.le_refl _, Nat.le_refl _, ?_, ?_, fun a c9 h9 => ⟨c9, h9, rfl, rfl, fun _ _ => rfl⟩⟩
    · obtain ⟨t, ht, -⟩ := State.frames_cons hr
      show T.setVm s.vm = { ((T.setVm s.vm).setFrames (.invoking m args :: below)).setFrames (T.setVm s.vm).frames with heap := T.heap, slotsUsed := T.slotsUsed }
      rw [State.setFrames_setFrames, State.setFrames_self ht]
      rfl
    · show T.slotsUsed = T.slotsUsed + ((T.heap.toList.drop T.heap.size).map (·.slots.size)).sum
      rw [List.drop_eq_nil_of_le (Nat.le_of_eq Array.length_toList)]
      rfl
    · show ((T.heap.toList.drop T.heap.size).map (·.slots.size)).sum ≤ 0
      rw [List.drop_eq_nil_of_le (Nat.le_of_eq Array.length_toList)]
      exact Nat.le_refl _
/-- 'throw new E()': new; dup; invokespecial; athrow -/
theorem vx_throw0 {cc : ByteArray} {pc : Nat} (hexec : p.tables.exec = Jvm.exec) (hb : c.code = cc) (hl : l.stackTraces = false) {own cls : String} {names : List String} {ik ic mc ms : Nat} {A : Nat → Prop}
    (hown : s.vm.findClass own = some m.cls) (hcls : Bundle.fit cls = true) (hnames : ∀ n ∈ names, Bundle.fit n = true)
    (hk : (Cond.classLink own ik cls).before args s = true) (hini : (Cond.initialized cls).before args s = true) (hat : ∀ w ∈ vx_at0 own ic cls names, w.before args s = true)
    (hgood : ∀ w ∈ Cond.classLink own ik cls :: Cond.initialized cls :: vx_at0 own ic cls names, vx_ot w = true)
    (hU : vx_Zq Bundle.tN "UNASSIGNED_STACK" Bundle.steD A s s.heap) (hN : vx_Zq Bundle.tN "SUPPRESSED_SENTINEL" Bundle.listD A s s.heap) (hS : va_S A s.heap H locs) (hsize : ls.size = c.maxLocals)
    (d0 : decode cc pc = .ok (.new ik, 3)) (d3 : decode cc (pc + 3) = .ok (.dup, 1)) (d4 : decode cc (pc + 4) = .ok (.invokespecial ic, 3)) (d7 : decode cc (pc + 7) = .ok (.athrow, 1))
    (hout : ∀ x ∈ c.exceptionTable.toList, covers x (pc + 7) = false)
    (hRframes : names.length + 3 < R.frames) (hRlocals : (rest.map fun v => v.category).sum + (13 * (names.length + 1) + 42) ≤ R.locals) (hRcells : cells + 1 ≤ R.cells) (hRslots : slots + 6 ≤ R.slots) (hlocks : meth.locks = false)
    (hx : ∀ t : State, s.vm.Alike t.vm → H.size ≤ t.heap.size → (∀ q : Nat, q < H.size → t.heap[q]? = H[q]?) → XC cls s t)
    (hf : ∀ z ∈ locs, free z.base) (hc : cells + 1 ≤ mc) (hs : slots + 6 ≤ ms) :
    W p l e R s m args below meth c H locs cells slots (vx_MQ below Qc XC args s mc ms free) (F0 m pc ls rest) := by
  intro T hT X
  have htr : e.platform.stackTraces = false := (show e.platform.stackTraces = l.stackTraces by rw [X.admits.platform]).trans hl
  have Y := vx_rebase X (R' := { frames := R.frames, locals := R.locals, cells := 1, slots := 6 }) (Nat.le_refl _) (Nat.le_refl _) hRcells hRslots
  obtain ⟨s', hA⟩ : ∃ z, z = (T.setVm s.vm).setFrames (.invoking m args :: below) := ⟨_, rfl⟩
  rw [← hA] at Y
  have hvm : s'.vm = s.vm := by rw [hA]; rfl
  have hhp : s'.heap = H := by rw [hA]; exact hT
  have hW0 : s.WarmedH s'.vm := by rw [hvm]; exact State.WarmedH.refl s
  have hat' : ∀ w ∈ vx_at0 own ic cls names, w.before args s' = true := fun w hw => vx_ot_at hW0 hvm.symm (hgood w (List.mem_cons_of_mem _ (List.mem_cons_of_mem _ hw))) (hat w hw)
  have hk' : (Cond.classLink own ik cls).before args s' = true := vx_ot_at hW0 hvm.symm (hgood _ List.mem_cons_self) hk
  have hini' : (Cond.initialized cls).before args s' = true := vx_ot_at hW0 hvm.symm (hgood _ (List.mem_cons_of_mem _ List.mem_cons_self)) hini
  have hU' : vx_Zq Bundle.tN "UNASSIGNED_STACK" Bundle.steD A s' s'.heap := by rw [hhp]; exact vx_Zq.moved hW0.alike (hU.kept hS.2.1)
  have hN' : vx_Zq Bundle.tN "SUPPRESSED_SENTINEL" Bundle.listD A s' s'.heap := by rw [hhp]; exact vx_Zq.moved hW0.alike (hN.kept hS.2.1)
  have h : ∀ w ∈ Bundle.ownAtoms0 own ic cls names, w.before args s' = true := vx_own hat' (vx_isRefq hU'.1) (vx_isRefq hN'.1) hU'.2.word hN'.2.word
  have hown' : s'.vm.findClass own = some m.cls := by rw [hvm]; exact hown
  have hins : (Cond.instantiable cls 6).before args s' = true := h _ (by simp [Bundle.ownAtoms0])
  obtain ⟨vm₁, cX, kX, hfX, hkX, -, -, X₁, st1⟩ := Y.newCold hexec (own := own) (C := cls) (index := ik) (n := 6) hown' hk' hins hini'
    (g := F0 m pc ls rest) rfl (by rw [hb]; exact d0) (Nat.le_refl _) (Nat.le_refl _)
  generalize hT1 : (T.setVm vm₁).pushCell { cls := cX, slots := kX.instanceTypes.map defaultValue, vm := .none } = T1 at X₁ st1
  have hcat : (Value.ref T.heap.size).category = 1 := rfl
  have hcellA : T1.heap[T.heap.size]? = some (freshCell cX kX) := by rw [← hT1]; exact State.heap_pushCell_size _ _
  have d3' : decode c.code (pc + 3) = .ok (.dup, 1) := by rw [hb]; exact d3
  obtain ⟨U, hsteps, hrun, hend, hW, hsame, ce, hce, hO⟩ := X₁.ctorThrow0 hexec htr (own := own) (cls := cls) (names := names) (ic := ic) hown' hcls hnames h (fun x hx => nomatch hx) hfX hkX hcellA (by rw [hhp, hT]; exact Nat.le_refl _)
    (g := { method := m, pc := pc + 4, locals := ls, stack := .ref T.heap.size :: .ref T.heap.size :: rest, locked := none }) rfl hsize rfl rfl (rest := rest) rfl
    (by rw [hb]; exact d4) (by rw [hb]; exact d7) hout hRframes (by simp only [List.map_cons, List.sum_cons, hcat]; omega) hlocks
  obtain ⟨f1, f2⟩ := vx_frame hsame
  rw [hhp] at f1 f2
  have hWs : s.WarmedH U.vm := State.WarmedH.trans hW0 hW
  have hcl : s.vm.findClass cls = some ce.cls := by
    have h9 := hO.cls
    rw [hvm] at h9
    exact h9
  have hall : s.sameButNew ({ U with vm := s.vm } : State) locs mc ms := by
    subst hA
    obtain ⟨e1, e2⟩ := hsame
    rw [State.setFrames_setFrames] at e1
    have h2 : (T.setVm s.vm).sameButNew ({ U with vm := s.vm } : State) [] (0 + 1) (0 + 6) := ⟨e1, e2⟩
    have h3 := X.same.trans h2
    rw [List.append_nil] at h3
    exact h3.mono hc hs
  refine ⟨U, ?_, .threw T.heap.size, hrun, hend, Or.inr ⟨T.heap.size, rfl, cls, ce, locs, hx U hWs.alike f1 (fun q hq => f2 q hq (fun z hz => nomatch hz)), hce, hO.vm, hcl, hWs, hall, hf⟩⟩
  refine st1 _ ?_
  show Steps p.tables e below (T1.setTop { method := m, pc := pc + 3, locals := ls, stack := .ref T.heap.size :: rest, locked := none }) _
  jvm_step X₁.here [X₁.here.top, hexec, d3', Value.category]
  exact hsteps
/-- 'throw new E("text")': new; dup; ldc; invokespecial; athrow -/
theorem vx_throwS {cc : ByteArray} {pc : Nat} (hexec : p.tables.exec = Jvm.exec) (hb : c.code = cc) (hl : l.stackTraces = false) {own cls text : String} {names : List String} {ik is ic mc ms sa : Nat} {A : Nat → Prop}
    (hown : s.vm.findClass own = some m.cls) (hcls : Bundle.fit cls = true) (hnames : ∀ n ∈ names, Bundle.fit n = true)
    (hk : (Cond.classLink own ik cls).before args s = true) (hini : (Cond.initialized cls).before args s = true) (hstr : vk_R own is text sa s) (hat : ∀ w ∈ vx_atS own ic cls names, w.before args s = true)
    (hgood : ∀ w ∈ Cond.classLink own ik cls :: Cond.initialized cls :: vx_atS own ic cls names, vx_ot w = true)
    (hU : vx_Zq Bundle.tN "UNASSIGNED_STACK" Bundle.steD A s s.heap) (hN : vx_Zq Bundle.tN "SUPPRESSED_SENTINEL" Bundle.listD A s s.heap) (hS : va_S A s.heap H locs) (hsize : ls.size = c.maxLocals)
    (d0 : decode cc pc = .ok (.new ik, 3)) (d3 : decode cc (pc + 3) = .ok (.dup, 1)) (d4 : decode cc (pc + 4) = .ok (.ldc is, 2)) (d6 : decode cc (pc + 6) = .ok (.invokespecial ic, 3)) (d9 : decode cc (pc + 9) = .ok (.athrow, 1))
    (hout : ∀ x ∈ c.exceptionTable.toList, covers x (pc + 9) = false)
    (hRframes : names.length + 3 < R.frames) (hRlocals : (rest.map fun v => v.category).sum + (13 * (names.length + 1) + 43) ≤ R.locals) (hRcells : cells + 1 ≤ R.cells) (hRslots : slots + 6 ≤ R.slots) (hlocks : meth.locks = false)
    (hx : ∀ t : State, s.vm.Alike t.vm → H.size ≤ t.heap.size → (∀ q : Nat, q < H.size → t.heap[q]? = H[q]?) → XC cls s t)
    (hf : ∀ z ∈ locs, free z.base) (hc : cells + 1 ≤ mc) (hs : slots + 6 ≤ ms) :
    W p l e R s m args below meth c H locs cells slots (vx_MQ below Qc XC args s mc ms free) (F0 m pc ls rest) := by
  intro T hT X
  have htr : e.platform.stackTraces = false := (show e.platform.stackTraces = l.stackTraces by rw [X.admits.platform]).trans hl
  have Y := vx_rebase X (R' := { frames := R.frames, locals := R.locals, cells := 1, slots := 6 }) (Nat.le_refl _) (Nat.le_refl _) hRcells hRslots
  obtain ⟨s', hA⟩ : ∃ z, z = (T.setVm s.vm).setFrames (.invoking m args :: below) := ⟨_, rfl⟩
  rw [← hA] at Y
  have hvm : s'.vm = s.vm := by rw [hA]; rfl
  have hhp : s'.heap = H := by rw [hA]; exact hT
  have hW0 : s.WarmedH s'.vm := by rw [hvm]; exact State.WarmedH.refl s
  have hat' : ∀ w ∈ vx_atS own ic cls names, w.before args s' = true := fun w hw => vx_ot_at hW0 hvm.symm (hgood w (List.mem_cons_of_mem _ (List.mem_cons_of_mem _ hw))) (hat w hw)
  have hk' : (Cond.classLink own ik cls).before args s' = true := vx_ot_at hW0 hvm.symm (hgood _ List.mem_cons_self) hk
  have hini' : (Cond.initialized cls).before args s' = true := vx_ot_at hW0 hvm.symm (hgood _ (List.mem_cons_of_mem _ List.mem_cons_self)) hini
  have hU' : vx_Zq Bundle.tN "UNASSIGNED_STACK" Bundle.steD A s' s'.heap := by rw [hhp]; exact vx_Zq.moved hW0.alike (hU.kept hS.2.1)
  have hN' : vx_Zq Bundle.tN "SUPPRESSED_SENTINEL" Bundle.listD A s' s'.heap := by rw [hhp]; exact vx_Zq.moved hW0.alike (hN.kept hS.2.1)
  have h : ∀ w ∈ Bundle.ownAtoms own ic cls names, w.before args s' = true := vx_own hat' (vx_isRefq hU'.1) (vx_isRefq hN'.1) hU'.2.word hN'.2.word
  have hown' : s'.vm.findClass own = some m.cls := by rw [hvm]; exact hown
  have hins : (Cond.instantiable cls 6).before args s' = true := h _ (by simp [Bundle.ownAtoms])
  obtain ⟨vm₁, cX, kX, hfX, hkX, -, -, X₁, st1⟩ := Y.newCold hexec (own := own) (C := cls) (index := ik) (n := 6) hown' hk' hins hini'
    (g := F0 m pc ls rest) rfl (by rw [hb]; exact d0) (Nat.le_refl _) (Nat.le_refl _)
  generalize hT1 : (T.setVm vm₁).pushCell { cls := cX, slots := kX.instanceTypes.map defaultValue, vm := .none } = T1 at X₁ st1
  have hcat : (Value.ref T.heap.size).category = 1 := rfl
  have hcellA : T1.heap[T.heap.size]? = some (freshCell cX kX) := by rw [← hT1]; exact State.heap_pushCell_size _ _
  have d3' : decode c.code (pc + 3) = .ok (.dup, 1) := by rw [hb]; exact d3
  have d4' : decode c.code (pc + 4) = .ok (.ldc is, 2) := by rw [hb]; exact d4
  have hstr' : vk_R own is text sa s' := vk_R.warm hW0 hstr
  obtain ⟨U, hsteps, hrun, hend, hW, hsame, ce, hce, hO⟩ := X₁.ctorThrowS hexec htr (own := own) (cls := cls) (names := names) (ic := ic) hown' hcls hnames h (fun x hx => nomatch hx) hfX hkX hcellA (by rw [hhp, hT]; exact Nat.le_refl _) (msg := .ref sa) rfl
    (g := { method := m, pc := pc + 6, locals := ls, stack := .ref sa :: .ref T.heap.size :: .ref T.heap.size :: rest, locked := none }) rfl hsize rfl rfl (rest := rest) rfl
    (by rw [hb]; exact d6) (by rw [hb]; exact d9) hout hRframes (by simp only [List.map_cons, List.sum_cons, hcat]; omega) hlocks
  obtain ⟨f1, f2⟩ := vx_frame hsame
  rw [hhp] at f1 f2
  have hWs : s.WarmedH U.vm := State.WarmedH.trans hW0 hW
  have hcl : s.vm.findClass cls = some ce.cls := by
    have h9 := hO.cls
    rw [hvm] at h9
    exact h9
  have hall : s.sameButNew ({ U with vm := s.vm } : State) locs mc ms := by
    subst hA
    obtain ⟨e1, e2⟩ := hsame
    rw [State.setFrames_setFrames] at e1
    have h2 : (T.setVm s.vm).sameButNew ({ U with vm := s.vm } : State) [] (0 + 1) (0 + 6) := ⟨e1, e2⟩
    have h3 := X.same.trans h2
    rw [List.append_nil] at h3
    exact h3.mono hc hs
  refine ⟨U, ?_, .threw T.heap.size, hrun, hend, Or.inr ⟨T.heap.size, rfl, cls, ce, locs, hx U hWs.alike f1 (fun q hq => f2 q hq (fun z hz => nomatch hz)), hce, hO.vm, hcl, hWs, hall, hf⟩⟩
  refine st1 _ ?_
  show Steps p.tables e below (T1.setTop { method := m, pc := pc + 3, locals := ls, stack := .ref T.heap.size :: rest, locked := none }) _
  jvm_step X₁.here [X₁.here.top, hexec, d3', Value.category]
  exact X₁.ldcString hexec (own := own) (text := text) (index := is) (a := sa) hown' hstr'.1 hstr'.2
    (g := { method := m, pc := pc + 4, locals := ls, stack := .ref T.heap.size :: .ref T.heap.size :: rest, locked := none }) rfl d4' _ hsteps
/-- 'throw new E("text")', the text by a wide index -/
theorem vx_throwSW {cc : ByteArray} {pc : Nat} (hexec : p.tables.exec = Jvm.exec) (hb : c.code = cc) (hl : l.stackTraces = false) {own cls text : String} {names : List String} {ik is ic mc ms sa : Nat} {A : Nat → Prop}
    (hown : s.vm.findClass own = some m.cls) (hcls : Bundle.fit cls = true) (hnames : ∀ n ∈ names, Bundle.fit n = true)
    (hk : (Cond.classLink own ik cls).before args s = true) (hini : (Cond.initialized cls).before args s = true) (hstr : vk_R own is text sa s) (hat : ∀ w ∈ vx_atS own ic cls names, w.before args s = true)
    (hgood : ∀ w ∈ Cond.classLink own ik cls :: Cond.initialized cls :: vx_atS own ic cls names, vx_ot w = true)
    (hU : vx_Zq Bundle.tN "UNASSIGNED_STACK" Bundle.steD A s s.heap) (hN : vx_Zq Bundle.tN "SUPPRESSED_SENTINEL" Bundle.listD A s s.heap) (hS : va_S A s.heap H locs) (hsize : ls.size = c.maxLocals)
    (d0 : decode cc pc = .ok (.new ik, 3)) (d3 : decode cc (pc + 3) = .ok (.dup, 1)) (d4 : decode cc (pc + 4) = .ok (.ldc_w is, 3)) (d7 : decode cc (pc + 7) = .ok (.invokespecial ic, 3)) (d10 : decode cc (pc + 10) = .ok (.athrow, 1))
    (hout : ∀ x ∈ c.exceptionTable.toList, covers x (pc + 10) = false)
    (hRframes : names.length + 3 < R.frames) (hRlocals : (rest.map fun v => v.category).sum + (13 * (names.length + 1) + 43) ≤ R.locals) (hRcells : cells + 1 ≤ R.cells) (hRslots : slots + 6 ≤ R.slots) (hlocks : meth.locks = false)
    (hx : ∀ t : State, s.vm.Alike t.vm → H.size ≤ t.heap.size → (∀ q : Nat, q < H.size → t.heap[q]? = H[q]?) → XC cls s t)
    (hf : ∀ z ∈ locs, free z.base) (hc : cells + 1 ≤ mc) (hs : slots + 6 ≤ ms) :
    W p l e R s m args below meth c H locs cells slots (vx_MQ below Qc XC args s mc ms free) (F0 m pc ls rest) := by
  intro T hT X
  have htr : e.platform.stackTraces = false := (show e.platform.stackTraces = l.stackTraces by rw [X.admits.platform]).trans hl
  have Y := vx_rebase X (R' := { frames := R.frames, locals := R.locals, cells := 1, slots := 6 }) (Nat.le_refl _) (Nat.le_refl _) hRcells hRslots
  obtain ⟨s', hA⟩ : ∃ z, z = (T.setVm s.vm).setFrames (.invoking m args :: below) := ⟨_, rfl⟩
  rw [← hA] at Y
  have hvm : s'.vm = s.vm := by rw [hA]; rfl
  have hhp : s'.heap = H := by rw [hA]; exact hT
  have hW0 : s.WarmedH s'.vm := by rw [hvm]; exact State.WarmedH.refl s
  have hat' : ∀ w ∈ vx_atS own ic cls names, w.before args s' = true := fun w hw => vx_ot_at hW0 hvm.symm (hgood w (List.mem_cons_of_mem _ (List.mem_cons_of_mem _ hw))) (hat w hw)
  have hk' : (Cond.classLink own ik cls).before args s' = true := vx_ot_at hW0 hvm.symm (hgood _ List.mem_cons_self) hk
  have hini' : (Cond.initialized cls).before args s' = true := vx_ot_at hW0 hvm.symm (hgood _ (List.mem_cons_of_mem _ List.mem_cons_self)) hini
  have hU' : vx_Zq Bundle.tN "UNASSIGNED_STACK" Bundle.steD A s' s'.heap := by rw [hhp]; exact vx_Zq.moved hW0.alike (hU.kept hS.2.1)
  have hN' : vx_Zq Bundle.tN "SUPPRESSED_SENTINEL" Bundle.listD A s' s'.heap := by rw [hhp]; exact vx_Zq.moved hW0.alike (hN.kept hS.2.1)
  have h : ∀ w ∈ Bundle.ownAtoms own ic cls names, w.before args s' = true := vx_own hat' (vx_isRefq hU'.1) (vx_isRefq hN'.1) hU'.2.word hN'.2.word
  have hown' : s'.vm.findClass own = some m.cls := by rw [hvm]; exact hown
  have hins : (Cond.instantiable cls 6).before args s' = true := h _ (by simp [Bundle.ownAtoms])
  obtain ⟨vm₁, cX, kX, hfX, hkX, -, -, X₁, st1⟩ := Y.newCold hexec (own := own) (C := cls) (index := ik) (n := 6) hown' hk' hins hini'
    (g := F0 m pc ls rest) rfl (by rw [hb]; exact d0) (Nat.le_refl _) (Nat.le_refl _)
  generalize hT1 : (T.setVm vm₁).pushCell { cls := cX, slots := kX.instanceTypes.map defaultValue, vm := .none } = T1 at X₁ st1
  have hcat : (Value.ref T.heap.size).category = 1 := rfl
  have hcellA : T1.heap[T.heap.size]? = some (freshCell cX kX) := by rw [← hT1]; exact State.heap_pushCell_size _ _
  have d3' : decode c.code (pc + 3) = .ok (.dup, 1) := by rw [hb]; exact d3
  have d4' : decode c.code (pc + 4) = .ok (.ldc_w is, 3) := by rw [hb]; exact d4
  have hstr' : vk_R own is text sa s' := vk_R.warm hW0 hstr
  obtain ⟨U, hsteps, hrun, hend, hW, hsame, ce, hce, hO⟩ := X₁.ctorThrowS hexec htr (own := own) (cls := cls) (names := names) (ic := ic) hown' hcls hnames h (fun x hx => nomatch hx) hfX hkX hcellA (by rw [hhp, hT]; exact Nat.le_refl _) (msg := .ref sa) rfl
    (g := { method := m, pc := pc + 7, locals := ls, stack := .ref sa :: .ref T.heap.size :: .ref T.heap.size :: rest, locked := none }) rfl hsize rfl rfl (rest := rest) rfl
    (by rw [hb]; exact d7) (by rw [hb]; exact d10) hout hRframes (by simp only [List.map_cons, List.sum_cons, hcat]; omega) hlocks
  obtain ⟨f1, f2⟩ := vx_frame hsame
  rw [hhp] at f1 f2
  have hWs : s.WarmedH U.vm := State.WarmedH.trans hW0 hW
  have hcl : s.vm.findClass cls = some ce.cls := by
    have h9 := hO.cls
    rw [hvm] at h9
    exact h9
  have hall : s.sameButNew ({ U with vm := s.vm } : State) locs mc ms := by
    subst hA
    obtain ⟨e1, e2⟩ := hsame
    rw [State.setFrames_setFrames] at e1
    have h2 : (T.setVm s.vm).sameButNew ({ U with vm := s.vm } : State) [] (0 + 1) (0 + 6) := ⟨e1, e2⟩
    have h3 := X.same.trans h2
    rw [List.append_nil] at h3
    exact h3.mono hc hs
  refine ⟨U, ?_, .threw T.heap.size, hrun, hend, Or.inr ⟨T.heap.size, rfl, cls, ce, locs, hx U hWs.alike f1 (fun q hq => f2 q hq (fun z hz => nomatch hz)), hce, hO.vm, hcl, hWs, hall, hf⟩⟩
  refine st1 _ ?_
  show Steps p.tables e below (T1.setTop { method := m, pc := pc + 3, locals := ls, stack := .ref T.heap.size :: rest, locked := none }) _
  jvm_step X₁.here [X₁.here.top, hexec, d3', Value.category]
  exact X₁.ldcStringW hexec (own := own) (text := text) (index := is) (a := sa) hown' hstr'.1 hstr'.2
    (g := { method := m, pc := pc + 4, locals := ls, stack := .ref T.heap.size :: .ref T.heap.size :: rest, locked := none }) rfl d4' _ hsteps
end Ends
section Bodies
variable {l : Launch}
theorem vx_ofW {y : MethodName} {ws ws' : List Cond} {rm : Room} {Pc : Array Value → State → Prop} {Qc : Array Value → State → Outcome → State → Prop} {XC : String → State → State → Prop} {mc ms : Nat} {free : Addr → Prop} {cc : ByteArray} {maxL : Nat} {ret : Option FieldType}
    (hy : plainName y.cls = true) (hw : ws = Cond.code y cc maxL ret :: ws')
    (body : ∀ p e s m args below meth c s₁, BodyLoose p l y (headSpec ws rm) cc maxL ret e s m args below meth c s₁ → c.maxLocals = maxL → (∀ x ∈ c.exceptionTable.toList, False) → Pc args s →
      W p l e (headSpec ws rm).room s m args below meth c s.heap [] 0 0 (vx_MQ below Qc XC args s mc ms free) (entryFrame m args maxL)) : vx_Met l y ws rm Pc Qc XC mc ms free := by
  refine MetFree.of_bodyS (code := cc) (maxLocals := maxL) (ret := ret) hy ?_ ?_
  · intro args s m h hn
    obtain ⟨meth, c, h1, h2, h3, h4, h5, h6, -, -⟩ := Cond.code_spec hn (atoms_spec (ws := ws) h _ (by rw [hw]; exact List.mem_cons_self))
    exact ⟨meth, c, h1, h2, h3, h4, h5, h6⟩
  · intro p e s m args below meth c s₁ B hml hP _
    have hh0 : s₁.heap = s.heap := by rw [B.state]; rfl
    have ht : ∀ x ∈ c.exceptionTable.toList, False := by
      obtain ⟨meth9, c9, h1, h2, -, -, -, -, h7, -⟩ := Cond.code_spec B.named (atoms_spec (ws := ws) B.pre _ (by rw [hw]; exact List.mem_cons_self))
      cases Option.some.inj (h1.symm.trans B.method)
      cases Option.some.inj (h2.symm.trans (Stand.of_body B).code)
      intro x hx
      rw [Array.isEmpty_iff.mp h7] at hx
      cases hx
    obtain ⟨t, a1, o, b1, b2, b3⟩ := body p e s m args below meth c s₁ B hml ht hP s₁ hh0 (Stand.of_body B)
    exact ⟨t, o, a1, b1, b2, b3⟩
/-- the table of a body with handlers -/
theorem vx_table {p : Program} {x y : MethodName} {S : Spec} {cc bytes : ByteArray} {maxL maxL' : Nat} {ret ret' : Option FieldType} {e : Env} {s s₁ : State} {m : MethodId} {args : Array Value} {below : List Frame} {meth : Method} {c : Code} {hh : List (Nat × Nat × Nat × Nat)}
    (B : BodyLoose p l y S cc maxL ret e s m args below meth c s₁) (h : (Cond.codeWith y bytes maxL' ret' hh).before args s = true) : c.exceptionTable.toList = tableOf hh := by
  obtain ⟨m9, meth9, c9, hn9, h1, h2, -, -, h6, -⟩ := Cond.codeWith_spec h
  cases Option.some.inj (hn9.symm.trans B.named)
  cases Option.some.inj (h1.symm.trans B.method)
  cases Option.some.inj (h2.symm.trans (Stand.of_body B).code)
  rw [← h6, table_eq]
end Bodies
end VXA
/-! ===== END ===== -/
/-! ===== BEGIN a static call of a method with an exception table ===== -/
section VXS
variable {p : Program} {l : Launch} {e : Env} {R : Room} {s : State} {m : MethodId} {args : Array Value} {below : List Frame} {meth : Method} {c : Code} {T : State} {H : Heap} {locs : List Loc} {cells slots : Nat}
abbrev vx_CSW (R : Room) (s : State) (args : Array Value) (own : String) (index : Nat) (y : MethodName) (bytes : ByteArray) (maxL : Nat) (ret : Option FieldType) (hh : List (Nat × Nat × Nat × Nat)) (ws : List Cond) (rm : Room) (mc ms n : Nat) : Prop :=
  (rm.cells = mc ∧ rm.slots = ms ∧ rm.frames + 1 ≤ R.frames ∧ 8 + (maxL + 11) + rm.locals ≤ R.locals ∧ (∀ w ∈ ws, ∀ (a' : Array Value) (U : State), s.WarmedH U.vm → w.before a' U = true) ∧ Cond.codeWith y bytes maxL ret hh ∈ ws) ∧
  (Cond.codeWith y bytes maxL ret hh).before args s = true ∧ (Cond.initialized y.cls).before args s = true ∧ (y.cls ≠ "java/lang/invoke/MethodHandle" ∧ y.cls ≠ "java/lang/invoke/VarHandle") ∧
  (∀ sig, parseMethodDescriptor y.desc = some sig → n = sig.parameters.length) ∧ (Cond.methodLink own index y).before args s = true ∧ (Cond.static y).before args s = true
theorem vx_cwSW {own : String} {index maxL mc ms : Nat} {y : MethodName} {bytes : ByteArray} {ret : Option FieldType} {hh : List (Nat × Nat × Nat × Nat)} {Ts ws ws' : List Cond} {rm : Room} (n : Nat) (ht : ∀ w ∈ Ts, w.before args s = true) (hT : GoodIn Ts (va_wsS own index y ws)) (hw : ws = Cond.codeWith y bytes maxL ret hh :: ws') (hrc : rm.cells = mc) (hrs : rm.slots = ms)
    (hd : y.cls ≠ "java/lang/invoke/MethodHandle" ∧ y.cls ≠ "java/lang/invoke/VarHandle" ∧ (parseMethodDescriptor y.desc).map (fun d => d.parameters.length) = some n) (hR : rm.frames + 1 ≤ R.frames ∧ 8 + (maxL + 11) + rm.locals ≤ R.locals) :
    vx_CSW R s args own index y bytes maxL ret hh ws rm mc ms n := by
  have ok : ∀ w ∈ va_wsS own index y ws, w.before args s = true := fun w h => ht w (hT w h).1
  have hG : GoodIn Ts ws := fun w h => hT w (by unfold va_wsS; exact List.mem_append_right _ h)
  have hc : Cond.codeWith y bytes maxL ret hh ∈ ws := by rw [hw]; exact List.mem_cons_self
  refine ⟨⟨hrc, hrs, hR.1, hR.2, pay_in ht hG, hc⟩, ht _ (hG _ hc).1, ok _ (by simp [va_wsS]), ⟨hd.1, hd.2.1⟩, fun sig h => ?_, ok _ (by simp [va_wsS]), ok _ (by simp [va_wsS])⟩
  have h2 := hd.2.2
  rw [h] at h2
  exact (Option.some.inj h2).symm
theorem vx_callSW (X : Stand p l e R s m args below meth c T locs cells slots) (hexec : p.tables.exec = Jvm.exec) {own : String} {index : Nat} {y : MethodName} {bytes : ByteArray} {maxL : Nat} {ret : Option FieldType} {hh : List (Nat × Nat × Nat × Nat)}
    (hown : s.vm.findClass own = some m.cls) (hlink : (Cond.methodLink own index y).before args s = true) (hstat : (Cond.static y).before args s = true) (hinit : (Cond.initialized y.cls).before args s = true)
    (hcode : (Cond.codeWith y bytes maxL ret hh).before args s = true) (hy : y.cls ≠ "java/lang/invoke/MethodHandle" ∧ y.cls ≠ "java/lang/invoke/VarHandle")
    {W9 : Nat} {Pre : Pt → Array Value → Prop} {Post : Pt → Array Value → Option Value → Pt → Prop} (hK : Back l R p e below s args y 3 W9 Pre Post)
    {g : JFrame} (hg : g.method = m) (hsize : g.locals.size = c.maxLocals) {argsL rest : List Value} (hlen : ∀ sig, parseMethodDescriptor y.desc = some sig → argsL.length = sig.parameters.length)
    (hstack : g.stack = argsL.reverse ++ rest) (hW : 2 * g.monitorRoom + (rest.map fun v => v.category).sum ≤ W9) (hdg : decode c.code g.pc = .ok (.invokestatic index, 3))
    (hpre : ∀ vm₁, s.WarmedH vm₁ → Pre ⟨T.setVm vm₁, locs, cells, slots⟩ argsL.toArray) :
    ∃ (v : Option Value) (vm₁ : Vm) (B : Pt), s.WarmedH vm₁ ∧ Stand p l e R s m args below meth c B.U B.locs B.cells B.slots ∧ Post ⟨T.setVm vm₁, locs, cells, slots⟩ argsL.toArray v B ∧
      ∀ target, Steps p.tables e below (B.U.setTop { g with pc := g.pc + 3, stack := v.toList ++ rest }) target → Steps p.tables e below (T.setTop g) target := by
  obtain ⟨mk, methM, cM, hnamed, hmethM, -, -, -, -, -, -, hsigM⟩ := Cond.codeWith_spec hcode
  have hstatic : methM.isStatic = true := Cond.static_spec hnamed hmethM hstat
  obtain ⟨kP, hkP, -⟩ := className_of_methodNamed hnamed
  have hinitP : kP.init = .initialized := Cond.initialized_spec (findClass_of_methodNamed hnamed) hkP hinit
  obtain ⟨vm₁, X₁, hstep₁⟩ := X.invokestatic hexec hown hlink hnamed hmethM hstatic hkP hinitP hy (g := g) hg (argsL := argsL) (rest := rest) (hlen _ hsigM) hstack hdg
  obtain ⟨v, B, X', hpost, hsteps⟩ := hK m meth c ⟨T.setVm vm₁, locs, cells, slots⟩ { g with stack := rest } (.invokestatic index) mk argsL.toArray X₁ hg hsize hdg hW (X₁.named hnamed) (hpre vm₁ X₁.warmed)
  exact ⟨v, vm₁, B, X₁.warmed, X', hpost, fun target h => hstep₁ _ fun acts => by rw [doInvoke_state]; exact hsteps.trans h⟩
theorem vx_runSW {y : MethodName} {bytes cc : ByteArray} {maxL nL mc ms n index : Nat} {ret : Option FieldType} {hh : List (Nat × Nat × Nat × Nat)} {ws : List Cond} {rm : Room} {Pc : Array Value → State → Prop} {Qc : Array Value → State → Outcome → State → Prop} {free : Addr → Prop} {Ts : List Cond} {own : String} {As rest : List Value} {g : JFrame}
    (S : CallFix p m c cc nL s args Ts own) (hM : Met l y ws rm Pc Qc mc ms free) (cw : vx_CSW R s args own index y bytes maxL ret hh ws rm mc ms n) (hp : PreS s H Pc As)
    (hg : g.method = m) (hn : As.length = n) (hsize : g.locals.size = nL) (hstack : g.stack = As.reverse ++ rest) (hW : 2 * g.monitorRoom + (rest.map fun v => v.category).sum ≤ 8) (hdg : decode cc g.pc = .ok (.invokestatic index, 3)) (hf : cells + mc ≤ R.cells ∧ slots + ms ≤ R.slots) :
    va_Run p l e R s m args below meth c H locs cells slots mc ms g rest (Qc As.toArray) (free) := by
  obtain ⟨⟨hrc, hrs, hfr, hlo, hws, hcw⟩, hcode, hini, hy, hlen, hl, hstt⟩ := cw
  have hK : Back l R p e below s args y 3 8 (PreOf R mc ms Pc) (PostOf Qc mc ms free) := va_backW (hh := hh) (bytes := bytes) (maxL := maxL) (ret := ret) hM hp.1 hrc hrs hfr hlo hws hcw (fun a' U hW => word_at hW (Or.inl (by first | rfl | simp [Cond.onTables, Cond.keeps, Cond.steady])) hini)
  obtain ⟨hx, hb, hml, ho, -⟩ := S
  intro T hT X
  obtain ⟨v, vm₁, ⟨U', l2, c2, s2⟩, hW₁, X', ⟨g', mk, t, L, e1, e2, hq, h1, hL, h2, h3⟩, st⟩ := vx_callSW X hx (hh := hh) (bytes := bytes) (maxL := maxL) (ret := ret) ho hl hstt hini hcode hy hK hg (hsize.trans hml.symm) (argsL := As) (rest := rest) (fun sig h => hn.trans (hlen sig h)) hstack hW (by rw [hb]; exact hdg)
    (fun vm₁ hW₁ => ⟨hf.1, hf.2, hp.2 (T.setVm vm₁) hT hW₁⟩)
  dsimp only [Pt.U, Pt.locs, Pt.cells, Pt.slots] at X' e1 e2 h1 h2 h3 st
  subst h1; subst h2; subst h3
  exact ⟨v, (T.setVm vm₁).calling g' mk As.toArray, t, U', L, hT, X', hL, e1, e2, hq, st⟩
/-- not caught here, past rows that name other classes: it goes on to the caller -/
theorem vx_outP {p : Program} {l : Launch} {e : Env} {R : Room} {s : State} {m : MethodId} {args : Array Value} {below : List Frame} {meth : Method} {c : Code} {H : Heap} {locs : List Loc} {cells slots : Nat} {free : Addr → Prop} {ls : Array Slot} {rest : List Value} {Qc : Array Value → State → Outcome → State → Prop} {XC : String → State → State → Prop}
    {pc : Nat} {own E : String} {ce : Cell} {q : Addr} {mc ms : Nat} (hown : s.vm.findClass own = some m.cls) (hlocks : meth.locks = false)
    (hpass : ∀ z ∈ c.exceptionTable.toList, covers z pc = false ∨ (z.catchType ≠ 0 ∧ ∃ nm : String, (Cond.classLink own z.catchType nm).before args s = true ∧ va_Nc E nm s)) (hcell : H[q]? = some ce) (hv : ce.vm = .none) (hcl : s.vm.findClass E = some ce.cls)
    (hx : ∀ t : State, t.heap = H → s.vm.Alike t.vm → XC E s t) (hf : ∀ z ∈ locs, free z.base) (hc : cells ≤ mc) (hs : slots ≤ ms) :
    vx_W p l e R s m args below meth c H locs cells slots (vx_MQ below Qc XC args s mc ms free) (F0 m pc ls rest) q := by
  intro T hT X
  have hpl : e.platform.magicAccessors = ({} : Platform).magicAccessors := by rw [X.admits.platform]
  obtain ⟨vm', hW', X', st⟩ := X.outThrough hlocks q (g := F0 m pc ls rest) rfl rfl rfl (cell := ce) (by rw [hT]; exact hcell) (by rw [hv]; rfl)
    (by obtain ⟨k9, h9, -⟩ := Vm.findClass_spec hcl; exact ⟨k9, h9⟩) (fun z hz => by
      rcases hpass z hz with h | ⟨hz0, nm, hl1, hn1⟩
      · exact Or.inl h
      · obtain ⟨c6, hc6, hcl6⟩ := Cond.classLink_spec hown hl1 e.platform hpl
        obtain ⟨a8, b8, h1, h2, h3⟩ := hn1
        cases Option.some.inj (h1.symm.trans hcl)
        cases Option.some.inj (h2.symm.trans hc6)
        exact Or.inr ⟨hz0, _, hcl6, h3⟩)
  obtain ⟨g₀, hfr⟩ := X'.frames_eq
  have hcell9 : ((T.setVm vm').setFrames (.throwing q :: below)).heap[q]? = some ce := by
    show T.heap[q]? = some ce
    rw [hT]; exact hcell
  have hend : Ended ((T.setVm vm').setFrames (.throwing q :: below)) below (.threw q) := State.frames_setFrames _ (State.cur_lt_of_frames hfr)
  refine ⟨(T.setVm vm').setFrames (.throwing q :: below), ?_, .threw q, X'.here.running, hend, Or.inr ⟨q, rfl, E, ce, locs, hx _ hT (X'.ends _).1.alike, hcell9, hv, hcl, (X'.ends _).1, (X'.ends _).2.mono hc hs, hf⟩⟩
  rw [X.pushThrowing_eq]
  exact st
/-- a thing of a world lies in the heap -/
theorem vx_lt {D : va_G} {cl : List vw_C} {ws : va_W} {H1 : Heap} (h : va_P D cl ws H1) {k : Nat} {q : Nat × va_E} (hk : ws[k]? = some q) : q.1 < H1.size := (h k q hk).lt
end VXS
/-! ===== END ===== -/
/-! ===== BEGIN methods with a table of their own: called by a name, returning or throwing ===== -/
section VXH
/-! vx_backW, vx_callVX, vx_callSX, vx_callVW, vx_runVW, vx_runVX, vx_runSX, vx_ofWH follow the same proofs as their sisters above (Free/Laws.lean, Shelf42/LK1.lean); vx_outP calls Shelf42/NT130.lean (outThrough). -/
section
variable {l : Launch} {R : Room} {p : Program} {e : Env} {below : List Frame} {s : State} {sargs : Array Value} {y : MethodName} {len W9 : Nat}
theorem vx_backW {ws : List Cond} {rm : Room} {Pc : Array Value → State → Prop} {Qc : Array Value → State → Outcome → State → Prop} {XC : String → State → State → Prop} {mc ms : Nat} {free : Addr → Prop} {bytes : ByteArray} {maxL : Nat} {ret : Option FieldType} {hh : List (Nat × Nat × Nat × Nat)}
    (hM : vx_Met l y ws rm Pc Qc XC mc ms free) (hblind : FrameBlind Pc) (hrc : rm.cells = mc) (hrs : rm.slots = ms)
    (hframes : rm.frames + 1 ≤ R.frames) (hlocals : W9 + (maxL + 11) + rm.locals ≤ R.locals)
    (hws : ∀ w ∈ ws, ∀ a' U, s.WarmedH U.vm → w.before a' U = true) (hcode : Cond.codeWith y bytes maxL ret hh ∈ ws) (hinit : ∀ a' U, s.WarmedH U.vm → (Cond.initialized y.cls).before a' U = true) :
    vx_Back l R p e below s sargs y len W9 (PreOf R mc ms Pc) (PostOf Qc mc ms free) (vx_Post XC mc ms free) := by
  intro m meth c A g ig mk a X hg hsize hdg hW hn hp
  have h1 : (headSpec ws rm).pre.before a A.U = true := atoms_intro fun w hw => hws w hw _ _ X.warmed
  have h2 : (Cond.codeWith y bytes maxL ret hh).before a A.U = true := hws _ hcode _ _ X.warmed
  have h3 : (Cond.initialized y.cls).before a A.U = true := hinit _ _ X.warmed
  have h4 : A.cells + (headSpec ws rm).room.cells ≤ R.cells := by rw [show (headSpec ws rm).room.cells = mc from hrc]; exact hp.1
  have h5 : A.slots + (headSpec ws rm).room.slots ≤ R.slots := by rw [show (headSpec ws rm).room.slots = ms from hrs]; exact hp.2.1
  have hPc : Pc a (A.U.calling g mk a) := hblind _ _ _ _ hp.2.2
  obtain ⟨U, Ls, c0, s0⟩ := A
  dsimp only [Pt.U, Pt.locs, Pt.cells, Pt.slots] at h1 h2 h3 h4 h5 X hn hPc ⊢
  obtain ⟨m9, methY, cY, hn9, hmY, hcY, -, hlY, -⟩ := Cond.codeWith_spec h2
  cases Option.some.inj (hn9.symm.trans hn)
  obtain ⟨kY, hkY, -⟩ := className_of_methodNamed hn
  have hinitY : kY.init = .initialized := Cond.initialized_spec (findClass_of_methodNamed hn) hkY h3
  have h : At U g.method c below := by rw [hg]; exact X.here
  have hlocals9 : W9 + (maxL + 11) + (headSpec ws rm).room.locals ≤ R.locals := hlocals
  have happ : (headSpec ws rm).appliesLoose y e.platform (U.calling g mk a) = true :=
    Spec.appliesLoose_calling (g := g) h hdg hn hkY hinitY
      (X.room_calling (g := g) (R' := (headSpec ws rm).room) hsize hmY hcY hframes (by rw [hlY]; omega) h4 h5) h1
  obtain ⟨mid, hmid⟩ := h.above
  have hfr : (U.setTop g).frames = (.java g :: mid) ++ below := by rw [State.frames_setTop' g h.top, hmid]; rfl
  obtain ⟨o, s₂, hsteps, -, hend, hq⟩ := Steps.callFree hM p X.admits X.cas X.clock (acts := []) hfr happ hPc trivial
  have hq' : vx_Q Qc XC mc ms free a (U.calling g mk a) o s₂ := hq
  rw [State.frames_setTop' g h.top] at hend
  obtain ⟨g₀, hg0⟩ := Option.isSome_iff_exists.mp h.top
  obtain ⟨r, hr⟩ := State.topJava?_eq_some.mp hg0
  have hr' : (({ U with heap := s₂.heap, slotsUsed := s₂.slotsUsed } : State).setVm s₂.vm).frames = .java g₀ :: r := hr
  rcases hq' with ⟨hqc, L, hfe, hL⟩ | ⟨q, rfl, E, ce, L, hx, hce, hcv, hcl, hW₂, hsm, hL⟩
  · obtain ⟨⟨v, rfl⟩, hW₂, e2, q2, q3, q4, q5, q6⟩ := id hfe
    have e3 : s₂ = ({ (U.calling g mk a).setFrames s₂.frames with heap := s₂.heap, slotsUsed := s₂.slotsUsed } : State).setVm s₂.vm := by
      have : s₂ = ({ s₂ with vm := (U.calling g mk a).vm } : State).setVm s₂.vm := rfl
      rw [e2] at this
      exact this
    obtain ⟨c₂, i₂, len₂, hc₂, hd₂, hf₂⟩ := hend
    have hW' : U.WarmedH s₂.vm := hW₂
    have hcc : c₂ = c := by
      have h1 : s₂.code? g.method = U.code? g.method := by
        rw [State.code?_eq, State.code?_eq, hW'.alike.method?]
      exact Option.some.inj (hc₂.symm.trans (h1.trans h.code))
    subst hcc
    have hlen : len₂ = len := by rw [hdg] at hd₂; cases hd₂; rfl
    subst hlen
    have hs₂ : s₂ = (({ U with heap := s₂.heap, slotsUsed := s₂.slotsUsed } : State).setVm s₂.vm).setTop { g with pc := g.pc + len₂, stack := v.toList ++ g.stack } := by
      refine e3.trans ?_
      rw [hf₂, State.calling_eq h.top, State.setFrames_setFrames, State.setTop_of_frames _ hr', hr]
      rfl
    have hsame : U.sameButNew ({ U with heap := s₂.heap, slotsUsed := s₂.slotsUsed } : State) L mc ms := by
      refine ⟨?_, q2, q3, q4, q5, q6⟩
      obtain ⟨t, ht, -⟩ := State.frames_cons hr
      show ({ U with heap := s₂.heap, slotsUsed := s₂.slotsUsed } : State) = { U.setFrames U.frames with heap := s₂.heap, slotsUsed := s₂.slotsUsed }
      rw [State.setFrames_self ht]
    subst hg
    refine Or.inl ⟨v, ⟨(({ U with heap := s₂.heap, slotsUsed := s₂.slotsUsed } : State).setVm s₂.vm), Ls ++ L, c0 + mc, s0 + ms⟩,
      ⟨X.admits, X.cas, X.clock, X.frames, X.room, X.hears, X.method, X.code, (X.here.setHeapUsed s₂.heap s₂.slotsUsed).setVm hW'.alike, X.tail, State.WarmedH.trans X.warmed hW', X.limits, X.bytes, X.same.trans (hsame.setVm s.vm)⟩,
      ⟨g, mk, s₂, L, rfl, rfl, hqc, rfl, hL, rfl, rfl⟩, ?_⟩
    show Steps p.tables e below _ ((({ U with heap := s₂.heap, slotsUsed := s₂.slotsUsed } : State).setVm s₂.vm).setTop { g with pc := g.pc + len₂, stack := v.toList ++ g.stack })
    rw [← hs₂]
    exact hsteps
  · obtain ⟨e2, q2, q3, q4, q5, q6⟩ := id hsm
    have e3 : s₂ = ({ (U.calling g mk a).setFrames s₂.frames with heap := s₂.heap, slotsUsed := s₂.slotsUsed } : State).setVm s₂.vm := by
      have : s₂ = ({ s₂ with vm := (U.calling g mk a).vm } : State).setVm s₂.vm := rfl
      rw [e2] at this
      exact this
    have hf₂ : s₂.frames = .throwing q :: .java g :: U.frames.tail := hend
    have hW' : U.WarmedH s₂.vm := hW₂
    have hs₂ : s₂ = ((({ U with heap := s₂.heap, slotsUsed := s₂.slotsUsed } : State).setVm s₂.vm).setTop g).pushFrame (.throwing q) := by
      refine e3.trans ?_
      rw [hf₂, State.calling_eq h.top, State.setFrames_setFrames, State.pushFrame, State.frames_setTop _ hr', State.setTop_of_frames _ hr', State.setFrames_setFrames, hr]
      rfl
    have hsame : U.sameButNew ({ U with heap := s₂.heap, slotsUsed := s₂.slotsUsed } : State) L mc ms := by
      refine ⟨?_, q2, q3, q4, q5, q6⟩
      obtain ⟨t, ht, -⟩ := State.frames_cons hr
      show ({ U with heap := s₂.heap, slotsUsed := s₂.slotsUsed } : State) = { U.setFrames U.frames with heap := s₂.heap, slotsUsed := s₂.slotsUsed }
      rw [State.setFrames_self ht]
    subst hg
    refine Or.inr ⟨q, ⟨(({ U with heap := s₂.heap, slotsUsed := s₂.slotsUsed } : State).setVm s₂.vm), Ls ++ L, c0 + mc, s0 + ms⟩,
      ⟨X.admits, X.cas, X.clock, X.frames, X.room, X.hears, X.method, X.code, (X.here.setHeapUsed s₂.heap s₂.slotsUsed).setVm hW'.alike, X.tail, State.WarmedH.trans X.warmed hW', X.limits, X.bytes, X.same.trans (hsame.setVm s.vm)⟩,
      ⟨g, mk, s₂, L, E, ce, rfl, rfl, hx, hce, hcv, hcl, rfl, hL, rfl, rfl⟩, ?_⟩
    show Steps p.tables e below _ (((({ U with heap := s₂.heap, slotsUsed := s₂.slotsUsed } : State).setVm s₂.vm).setTop g).pushFrame (.throwing q))
    rw [← hs₂]
    exact hsteps
end
variable {p : Program} {l : Launch} {e : Env} {R : Room} {s : State} {m : MethodId} {args : Array Value} {below : List Frame} {meth : Method} {c : Code} {T : State} {H : Heap} {locs : List Loc} {cells slots : Nat}
theorem vx_callVX (X : Stand p l e R s m args below meth c T locs cells slots) (hexec : p.tables.exec = Jvm.exec) {own C : String} {index : Nat} {y : MethodName} {bytes : ByteArray} {maxL : Nat} {ret : Option FieldType} {hh : List (Nat × Nat × Nat × Nat)}
    (hown : s.vm.findClass own = some m.cls) (hlink : (Cond.methodLink own index y).before args s = true) (hinst : (Cond.instanceMethod y).before args s = true) (hsel : (Cond.selects C y y).before args s = true)
    (hcode : (Cond.codeWith y bytes maxL ret hh).before args s = true) (hy : y.cls ≠ "java/lang/invoke/MethodHandle" ∧ y.cls ≠ "java/lang/invoke/VarHandle")
    {W9 : Nat} {Pre : Pt → Array Value → Prop} {Post : Pt → Array Value → Option Value → Pt → Prop} {PostX : Pt → Array Value → Addr → Pt → Prop} (hK : vx_Back l R p e below s args y 3 W9 Pre Post PostX)
    {b : Addr} {cellB : Cell} (hcell : T.heap[b]? = some cellB) (hobj : cellB.vm.isStatics = false) (hcls : s.vm.findClass C = some cellB.cls)
    {g : JFrame} (hg : g.method = m) (hsize : g.locals.size = c.maxLocals) {argsL rest : List Value} (hlen : ∀ sig, parseMethodDescriptor y.desc = some sig → argsL.length = sig.parameters.length)
    (hstack : g.stack = argsL.reverse ++ .ref b :: rest) (hW : 2 * g.monitorRoom + (rest.map fun v => v.category).sum ≤ W9) (hdg : decode c.code g.pc = .ok (.invokevirtual index, 3))
    (hpre : ∀ vm₁, s.WarmedH vm₁ → Pre ⟨T.setVm vm₁, locs, cells, slots⟩ (Value.ref b :: argsL).toArray) :
    (∃ (v : Option Value) (vm₁ : Vm) (B : Pt), s.WarmedH vm₁ ∧ Stand p l e R s m args below meth c B.U B.locs B.cells B.slots ∧ Post ⟨T.setVm vm₁, locs, cells, slots⟩ (Value.ref b :: argsL).toArray v B ∧
      ∀ target, Steps p.tables e below (B.U.setTop { g with pc := g.pc + 3, stack := v.toList ++ rest }) target → Steps p.tables e below (T.setTop g) target) ∨
    (∃ (q : Addr) (vm₁ : Vm) (B : Pt), s.WarmedH vm₁ ∧ Stand p l e R s m args below meth c B.U B.locs B.cells B.slots ∧ PostX ⟨T.setVm vm₁, locs, cells, slots⟩ (Value.ref b :: argsL).toArray q B ∧
      Steps p.tables e below (T.setTop g) ((B.U.setTop { g with stack := rest }).pushFrame (.throwing q))) := by
  obtain ⟨mk, methM, hnamed, hmethM, hstM, habM⟩ := Cond.instanceMethod_spec hinst
  obtain ⟨m8, methM', cM, hn8, hmethM', -, -, -, -, -, -, hsigM⟩ := Cond.codeWith_spec hcode
  cases Option.some.inj (hn8.symm.trans hnamed)
  cases hmethM.symm.trans hmethM'
  obtain ⟨c2, r2, m2, q1, q2, q3, q4, kP, hkP, hkPi⟩ := Cond.selects_spec hsel
  cases hcls.symm.trans q1
  cases (State.methodFound?_of_named hnamed hy).symm.trans q2
  cases hnamed.symm.trans q3
  have hselP : selectMethod e.platform s.vm cellB.cls mk = .method mk := by rw [Launch.admits_selectMethod X.admits]; exact q4
  obtain ⟨vm₁, X₁, hstep₁⟩ := X.invokevirtual hexec hown hlink hnamed hmethM hstM hkP hkPi hy (a := b) (cell := cellB) hcell
    (fun z h => by rw [h] at hobj; cases hobj) hselP hmethM habM hkP hkPi (g := g) hg (argsL := argsL) (rest := rest) (hlen _ hsigM) hstack hdg
  rcases hK m meth c ⟨T.setVm vm₁, locs, cells, slots⟩ { g with stack := rest } (.invokevirtual index) mk (Value.ref b :: argsL).toArray X₁ hg hsize hdg hW (X₁.named hnamed) (hpre vm₁ X₁.warmed) with ⟨v, B, X', hpost, hsteps⟩ | ⟨q, B, X', hpost, hsteps⟩
  · exact Or.inl ⟨v, vm₁, B, X₁.warmed, X', hpost, fun target h => hstep₁ _ fun acts => by rw [doInvoke_state]; exact hsteps.trans h⟩
  · exact Or.inr ⟨q, vm₁, B, X₁.warmed, X', hpost, hstep₁ _ fun acts => by rw [doInvoke_state]; exact hsteps⟩
theorem vx_callSX (X : Stand p l e R s m args below meth c T locs cells slots) (hexec : p.tables.exec = Jvm.exec) {own : String} {index : Nat} {y : MethodName} {bytes : ByteArray} {maxL : Nat} {ret : Option FieldType} {hh : List (Nat × Nat × Nat × Nat)}
    (hown : s.vm.findClass own = some m.cls) (hlink : (Cond.methodLink own index y).before args s = true) (hstat : (Cond.static y).before args s = true) (hinit : (Cond.initialized y.cls).before args s = true)
    (hcode : (Cond.codeWith y bytes maxL ret hh).before args s = true) (hy : y.cls ≠ "java/lang/invoke/MethodHandle" ∧ y.cls ≠ "java/lang/invoke/VarHandle")
    {W9 : Nat} {Pre : Pt → Array Value → Prop} {Post : Pt → Array Value → Option Value → Pt → Prop} {PostX : Pt → Array Value → Addr → Pt → Prop} (hK : vx_Back l R p e below s args y 3 W9 Pre Post PostX)
    {g : JFrame} (hg : g.method = m) (hsize : g.locals.size = c.maxLocals) {argsL rest : List Value} (hlen : ∀ sig, parseMethodDescriptor y.desc = some sig → argsL.length = sig.parameters.length)
    (hstack : g.stack = argsL.reverse ++ rest) (hW : 2 * g.monitorRoom + (rest.map fun v => v.category).sum ≤ W9) (hdg : decode c.code g.pc = .ok (.invokestatic index, 3))
    (hpre : ∀ vm₁, s.WarmedH vm₁ → Pre ⟨T.setVm vm₁, locs, cells, slots⟩ argsL.toArray) :
    (∃ (v : Option Value) (vm₁ : Vm) (B : Pt), s.WarmedH vm₁ ∧ Stand p l e R s m args below meth c B.U B.locs B.cells B.slots ∧ Post ⟨T.setVm vm₁, locs, cells, slots⟩ argsL.toArray v B ∧
      ∀ target, Steps p.tables e below (B.U.setTop { g with pc := g.pc + 3, stack := v.toList ++ rest }) target → Steps p.tables e below (T.setTop g) target) ∨
    (∃ (q : Addr) (vm₁ : Vm) (B : Pt), s.WarmedH vm₁ ∧ Stand p l e R s m args below meth c B.U B.locs B.cells B.slots ∧ PostX ⟨T.setVm vm₁, locs, cells, slots⟩ argsL.toArray q B ∧
      Steps p.tables e below (T.setTop g) ((B.U.setTop { g with stack := rest }).pushFrame (.throwing q))) := by
  obtain ⟨mk, methM, cM, hnamed, hmethM, -, -, -, -, -, -, hsigM⟩ := Cond.codeWith_spec hcode
  have hstatic : methM.isStatic = true := Cond.static_spec hnamed hmethM hstat
  obtain ⟨kP, hkP, -⟩ := className_of_methodNamed hnamed
  have hinitP : kP.init = .initialized := Cond.initialized_spec (findClass_of_methodNamed hnamed) hkP hinit
  obtain ⟨vm₁, X₁, hstep₁⟩ := X.invokestatic hexec hown hlink hnamed hmethM hstatic hkP hinitP hy (g := g) hg (argsL := argsL) (rest := rest) (hlen _ hsigM) hstack hdg
  rcases hK m meth c ⟨T.setVm vm₁, locs, cells, slots⟩ { g with stack := rest } (.invokestatic index) mk argsL.toArray X₁ hg hsize hdg hW (X₁.named hnamed) (hpre vm₁ X₁.warmed) with ⟨v, B, X', hpost, hsteps⟩ | ⟨q, B, X', hpost, hsteps⟩
  · exact Or.inl ⟨v, vm₁, B, X₁.warmed, X', hpost, fun target h => hstep₁ _ fun acts => by rw [doInvoke_state]; exact hsteps.trans h⟩
  · exact Or.inr ⟨q, vm₁, B, X₁.warmed, X', hpost, hstep₁ _ fun acts => by rw [doInvoke_state]; exact hsteps⟩
theorem vx_callVW (X : Stand p l e R s m args below meth c T locs cells slots) (hexec : p.tables.exec = Jvm.exec) {own C : String} {index : Nat} {y : MethodName} {bytes : ByteArray} {maxL : Nat} {ret : Option FieldType} {hh : List (Nat × Nat × Nat × Nat)}
    (hown : s.vm.findClass own = some m.cls) (hlink : (Cond.methodLink own index y).before args s = true) (hinst : (Cond.instanceMethod y).before args s = true) (hsel : (Cond.selects C y y).before args s = true)
    (hcode : (Cond.codeWith y bytes maxL ret hh).before args s = true) (hy : y.cls ≠ "java/lang/invoke/MethodHandle" ∧ y.cls ≠ "java/lang/invoke/VarHandle")
    {W9 : Nat} {Pre : Pt → Array Value → Prop} {Post : Pt → Array Value → Option Value → Pt → Prop} (hK : Back l R p e below s args y 3 W9 Pre Post)
    {b : Addr} {cellB : Cell} (hcell : T.heap[b]? = some cellB) (hobj : cellB.vm.isStatics = false) (hcls : s.vm.findClass C = some cellB.cls)
    {g : JFrame} (hg : g.method = m) (hsize : g.locals.size = c.maxLocals) {argsL rest : List Value} (hlen : ∀ sig, parseMethodDescriptor y.desc = some sig → argsL.length = sig.parameters.length)
    (hstack : g.stack = argsL.reverse ++ .ref b :: rest) (hW : 2 * g.monitorRoom + (rest.map fun v => v.category).sum ≤ W9) (hdg : decode c.code g.pc = .ok (.invokevirtual index, 3))
    (hpre : ∀ vm₁, s.WarmedH vm₁ → Pre ⟨T.setVm vm₁, locs, cells, slots⟩ (Value.ref b :: argsL).toArray) :
    ∃ (v : Option Value) (vm₁ : Vm) (B : Pt), s.WarmedH vm₁ ∧ Stand p l e R s m args below meth c B.U B.locs B.cells B.slots ∧ Post ⟨T.setVm vm₁, locs, cells, slots⟩ (Value.ref b :: argsL).toArray v B ∧
      ∀ target, Steps p.tables e below (B.U.setTop { g with pc := g.pc + 3, stack := v.toList ++ rest }) target → Steps p.tables e below (T.setTop g) target := by
  obtain ⟨mk, methM, hnamed, hmethM, hstM, habM⟩ := Cond.instanceMethod_spec hinst
  obtain ⟨m8, methM', cM, hn8, hmethM', -, -, -, -, -, -, hsigM⟩ := Cond.codeWith_spec hcode
  cases Option.some.inj (hn8.symm.trans hnamed)
  cases hmethM.symm.trans hmethM'
  obtain ⟨c2, r2, m2, q1, q2, q3, q4, kP, hkP, hkPi⟩ := Cond.selects_spec hsel
  cases hcls.symm.trans q1
  cases (State.methodFound?_of_named hnamed hy).symm.trans q2
  cases hnamed.symm.trans q3
  have hselP : selectMethod e.platform s.vm cellB.cls mk = .method mk := by rw [Launch.admits_selectMethod X.admits]; exact q4
  obtain ⟨vm₁, X₁, hstep₁⟩ := X.invokevirtual hexec hown hlink hnamed hmethM hstM hkP hkPi hy (a := b) (cell := cellB) hcell
    (fun z h => by rw [h] at hobj; cases hobj) hselP hmethM habM hkP hkPi (g := g) hg (argsL := argsL) (rest := rest) (hlen _ hsigM) hstack hdg
  obtain ⟨v, B, X', hpost, hsteps⟩ := hK m meth c ⟨T.setVm vm₁, locs, cells, slots⟩ { g with stack := rest } (.invokevirtual index) mk (Value.ref b :: argsL).toArray X₁ hg hsize hdg hW (X₁.named hnamed) (hpre vm₁ X₁.warmed)
  exact ⟨v, vm₁, B, X₁.warmed, X', hpost, fun target h => hstep₁ _ fun acts => by rw [doInvoke_state]; exact hsteps.trans h⟩
abbrev vx_CVW (R : Room) (s : State) (args : Array Value) (own C : String) (index : Nat) (y : MethodName) (bytes : ByteArray) (maxL : Nat) (ret : Option FieldType) (hh : List (Nat × Nat × Nat × Nat)) (ws : List Cond) (rm : Room) (mc ms n : Nat) : Prop :=
  (rm.cells = mc ∧ rm.slots = ms ∧ rm.frames + 1 ≤ R.frames ∧ 8 + (maxL + 11) + rm.locals ≤ R.locals ∧ (∀ w ∈ ws, ∀ (a' : Array Value) (U : State), s.WarmedH U.vm → w.before a' U = true) ∧ Cond.codeWith y bytes maxL ret hh ∈ ws) ∧
  (Cond.codeWith y bytes maxL ret hh).before args s = true ∧ (Cond.initialized y.cls).before args s = true ∧ (y.cls ≠ "java/lang/invoke/MethodHandle" ∧ y.cls ≠ "java/lang/invoke/VarHandle") ∧
  (∀ sig, parseMethodDescriptor y.desc = some sig → n = sig.parameters.length) ∧ (Cond.methodLink own index y).before args s = true ∧ (Cond.instanceMethod y).before args s = true ∧ (Cond.selects C y y).before args s = true
theorem vx_cwVW {own C : String} {index maxL mc ms : Nat} {y : MethodName} {bytes : ByteArray} {ret : Option FieldType} {hh : List (Nat × Nat × Nat × Nat)} {Ts ws ws' : List Cond} {rm : Room} (n : Nat) (ht : ∀ w ∈ Ts, w.before args s = true) (hT : GoodIn Ts (wsV own index C y ws)) (hw : ws = Cond.codeWith y bytes maxL ret hh :: ws') (hrc : rm.cells = mc) (hrs : rm.slots = ms)
    (hd : y.cls = C ∧ y.cls ≠ "java/lang/invoke/MethodHandle" ∧ y.cls ≠ "java/lang/invoke/VarHandle" ∧ (parseMethodDescriptor y.desc).map (fun d => d.parameters.length) = some n) (hR : rm.frames + 1 ≤ R.frames ∧ 8 + (maxL + 11) + rm.locals ≤ R.locals) :
    vx_CVW R s args own C index y bytes maxL ret hh ws rm mc ms n := by
  obtain ⟨hC, hd⟩ := hd
  subst hC
  have ok : ∀ w ∈ wsV own index y.cls y ws, w.before args s = true := fun w h => ht w (hT w h).1
  have hG : GoodIn Ts ws := fun w h => hT w (by unfold wsV; exact List.mem_append_right _ h)
  have hc : Cond.codeWith y bytes maxL ret hh ∈ ws := by rw [hw]; exact List.mem_cons_self
  refine ⟨⟨hrc, hrs, hR.1, hR.2, pay_in ht hG, hc⟩, ht _ (hG _ hc).1, ok _ (by simp [wsV]), ⟨hd.1, hd.2.1⟩, fun sig h => ?_, ok _ (by simp [wsV]), ok _ (by simp [wsV]), ok _ (by simp [wsV])⟩
  have h2 := hd.2.2
  rw [h] at h2
  exact (Option.some.inj h2).symm
theorem vx_runVW {y : MethodName} {bytes cc : ByteArray} {maxL nL mc ms n index : Nat} {ret : Option FieldType} {hh : List (Nat × Nat × Nat × Nat)} {ws : List Cond} {rm : Room} {Pc : Array Value → State → Prop} {Qc : Array Value → State → Outcome → State → Prop} {free : Addr → Prop} {Ts : List Cond} {own C : String} {b : Addr} {As rest : List Value} {g : JFrame}
    (S : CallFix p m c cc nL s args Ts own) (hM : Met l y ws rm Pc Qc mc ms free) (cw : vx_CVW R s args own C index y bytes maxL ret hh ws rm mc ms n) (hp : PreV s H C b Pc As)
    (hg : g.method = m) (hn : As.length = n) (hsize : g.locals.size = nL) (hstack : g.stack = As.reverse ++ .ref b :: rest) (hW : 2 * g.monitorRoom + (rest.map fun v => v.category).sum ≤ 8) (hdg : decode cc g.pc = .ok (.invokevirtual index, 3)) (hf : cells + mc ≤ R.cells ∧ slots + ms ≤ R.slots) :
    va_Run p l e R s m args below meth c H locs cells slots mc ms g rest (Qc (Value.ref b :: As).toArray) free := by
  obtain ⟨⟨hrc, hrs, hfr, hlo, hws, hcw⟩, hcode, hini, hy, hlen, hl, hin, hse⟩ := cw
  have hK : Back l R p e below s args y 3 8 (PreOf R mc ms Pc) (PostOf Qc mc ms free) := va_backW (hh := hh) (bytes := bytes) (maxL := maxL) (ret := ret) hM hp.1 hrc hrs hfr hlo hws hcw (fun a' U hW => word_at hW (Or.inl (by first | rfl | simp [Cond.onTables, Cond.keeps, Cond.steady])) hini)
  obtain ⟨hx, hb, hml, ho, -⟩ := S
  obtain ⟨-, ⟨cellB, hcB, hoB, hclB⟩, hPc⟩ := hp
  intro T hT X
  obtain ⟨v, vm₁, ⟨U', l2, c2, s2⟩, hW₁, X', ⟨g', mk, t, L, e1, e2, hq, h1, hL, h2, h3⟩, st⟩ := vx_callVW X hx (C := C) (hh := hh) (bytes := bytes) (maxL := maxL) (ret := ret) ho hl hin hse hcode hy hK (by rw [hT]; exact hcB) hoB hclB hg (hsize.trans hml.symm) (argsL := As) (rest := rest) (fun sig h => hn.trans (hlen sig h)) hstack hW (by rw [hb]; exact hdg)
    (fun vm₁ hW₁ => ⟨hf.1, hf.2, hPc (T.setVm vm₁) hT hW₁⟩)
  dsimp only [Pt.U, Pt.locs, Pt.cells, Pt.slots] at X' e1 e2 h1 h2 h3 st
  subst h1; subst h2; subst h3
  exact ⟨v, (T.setVm vm₁).calling g' mk (Value.ref b :: As).toArray, t, U', L, hT, X', hL, e1, e2, hq, st⟩
section
variable {y : MethodName} {bytes cc : ByteArray} {maxL nL mc ms n index : Nat} {ret : Option FieldType} {ws : List Cond} {rm : Room} {Pc : Array Value → State → Prop} {Qc : Array Value → State → Outcome → State → Prop} {XC : String → State → State → Prop} {free : Addr → Prop} {Ts : List Cond} {own C : String} {b : Addr} {As rest : List Value} {g : JFrame}
theorem vx_runVX {hh : List (Nat × Nat × Nat × Nat)} (S : CallFix p m c cc nL s args Ts own) (hM : vx_Met l y ws rm Pc Qc XC mc ms free) (cw : vx_CVW R s args own C index y bytes maxL ret hh ws rm mc ms n) (hp : PreV s H C b Pc As)
    (hg : g.method = m) (hn : As.length = n) (hsize : g.locals.size = nL) (hstack : g.stack = As.reverse ++ .ref b :: rest) (hW : 2 * g.monitorRoom + (rest.map fun v => v.category).sum ≤ 8) (hdg : decode cc g.pc = .ok (.invokevirtual index, 3)) (hf : cells + mc ≤ R.cells ∧ slots + ms ≤ R.slots) :
    vx_Run p l e R s m args below meth c H locs cells slots mc ms g rest (Qc (Value.ref b :: As).toArray) XC free := by
  obtain ⟨⟨hrc, hrs, hfr, hlo, hws, hcw⟩, hcode, hini, hy, hlen, hl, hin, hse⟩ := cw
  have hK : vx_Back l R p e below s args y 3 8 (PreOf R mc ms Pc) (PostOf Qc mc ms free) (vx_Post XC mc ms free) := vx_backW (hh := hh) (bytes := bytes) (maxL := maxL) (ret := ret) hM hp.1 hrc hrs hfr hlo hws hcw (fun a' U hW => word_at hW (Or.inl (by first | rfl | simp [Cond.onTables, Cond.keeps, Cond.steady])) hini)
  obtain ⟨hx, hb, hml, ho, -⟩ := S
  obtain ⟨-, ⟨cellB, hcB, hoB, hclB⟩, hPc⟩ := hp
  intro T hT X
  rcases vx_callVX X hx (C := C) (hh := hh) (bytes := bytes) (maxL := maxL) (ret := ret) ho hl hin hse hcode hy hK (by rw [hT]; exact hcB) hoB hclB hg (hsize.trans hml.symm) (argsL := As) (rest := rest) (fun sig h => hn.trans (hlen sig h)) hstack hW (by rw [hb]; exact hdg)
    (fun vm₁ hW₁ => ⟨hf.1, hf.2, hPc (T.setVm vm₁) hT hW₁⟩) with ⟨v, vm₁, ⟨U', l2, c2, s2⟩, hW₁, X', ⟨g', mk, t, L, e1, e2, hq, h1, hL, h2, h3⟩, st⟩ | ⟨q, vm₁, ⟨U', l2, c2, s2⟩, hW₁, X', ⟨g', mk, t, L, E, ce, e1, e2, hq, hce, hcv, hcl, h1, hL, h2, h3⟩, st⟩
  · dsimp only [Pt.U, Pt.locs, Pt.cells, Pt.slots] at X' e1 e2 h1 h2 h3 st
    subst h1; subst h2; subst h3
    exact Or.inl ⟨v, (T.setVm vm₁).calling g' mk (Value.ref b :: As).toArray, t, U', L, hT, X', hL, e1, e2, hq, st⟩
  · dsimp only [Pt.U, Pt.locs, Pt.cells, Pt.slots] at X' e1 e2 h1 h2 h3 st hcl
    subst h1; subst h2; subst h3
    exact Or.inr ⟨q, (T.setVm vm₁).calling g' mk (Value.ref b :: As).toArray, t, U', L, E, ce, hT, X', hL, e1, e2, hq, hce, hcv, vx_cls hW₁ hcl, st⟩
theorem vx_runSX {hh : List (Nat × Nat × Nat × Nat)} (S : CallFix p m c cc nL s args Ts own) (hM : vx_Met l y ws rm Pc Qc XC mc ms free) (cw : vx_CSW R s args own index y bytes maxL ret hh ws rm mc ms n) (hp : PreS s H Pc As)
    (hg : g.method = m) (hn : As.length = n) (hsize : g.locals.size = nL) (hstack : g.stack = As.reverse ++ rest) (hW : 2 * g.monitorRoom + (rest.map fun v => v.category).sum ≤ 8) (hdg : decode cc g.pc = .ok (.invokestatic index, 3)) (hf : cells + mc ≤ R.cells ∧ slots + ms ≤ R.slots) :
    vx_Run p l e R s m args below meth c H locs cells slots mc ms g rest (Qc As.toArray) XC free := by
  obtain ⟨⟨hrc, hrs, hfr, hlo, hws, hcw⟩, hcode, hini, hy, hlen, hl, hstt⟩ := cw
  have hK : vx_Back l R p e below s args y 3 8 (PreOf R mc ms Pc) (PostOf Qc mc ms free) (vx_Post XC mc ms free) := vx_backW (hh := hh) (bytes := bytes) (maxL := maxL) (ret := ret) hM hp.1 hrc hrs hfr hlo hws hcw (fun a' U hW => word_at hW (Or.inl (by first | rfl | simp [Cond.onTables, Cond.keeps, Cond.steady])) hini)
  obtain ⟨hx, hb, hml, ho, -⟩ := S
  intro T hT X
  rcases vx_callSX X hx (hh := hh) (bytes := bytes) (maxL := maxL) (ret := ret) ho hl hstt hini hcode hy hK hg (hsize.trans hml.symm) (argsL := As) (rest := rest) (fun sig h => hn.trans (hlen sig h)) hstack hW (by rw [hb]; exact hdg)
    (fun vm₁ hW₁ => ⟨hf.1, hf.2, hp.2 (T.setVm vm₁) hT hW₁⟩) with ⟨v, vm₁, ⟨U', l2, c2, s2⟩, hW₁, X', ⟨g', mk, t, L, e1, e2, hq, h1, hL, h2, h3⟩, st⟩ | ⟨q, vm₁, ⟨U', l2, c2, s2⟩, hW₁, X', ⟨g', mk, t, L, E, ce, e1, e2, hq, hce, hcv, hcl, h1, hL, h2, h3⟩, st⟩
  · dsimp only [Pt.U, Pt.locs, Pt.cells, Pt.slots] at X' e1 e2 h1 h2 h3 st
    subst h1; subst h2; subst h3
    exact Or.inl ⟨v, (T.setVm vm₁).calling g' mk As.toArray, t, U', L, hT, X', hL, e1, e2, hq, st⟩
  · dsimp only [Pt.U, Pt.locs, Pt.cells, Pt.slots] at X' e1 e2 h1 h2 h3 st hcl
    subst h1; subst h2; subst h3
    exact Or.inr ⟨q, (T.setVm vm₁).calling g' mk As.toArray, t, U', L, E, ce, hT, X', hL, e1, e2, hq, hce, hcv, vx_cls hW₁ hcl, st⟩
end
end VXH
theorem vx_ofWH {l : Launch} {y : MethodName} {ws ws' : List Cond} {rm : Room} {Pc : Array Value → State → Prop} {Qc : Array Value → State → Outcome → State → Prop} {XC : String → State → State → Prop} {mc ms : Nat} {free : Addr → Prop} {cc : ByteArray} {maxL : Nat} {ret : Option FieldType} {hh : List (Nat × Nat × Nat × Nat)}
    (hy : plainName y.cls = true) (hw : ws = Cond.codeWith y cc maxL ret hh :: ws')
    (body : ∀ p e s m args below meth c s₁, BodyLoose p l y (headSpec ws rm) cc maxL ret e s m args below meth c s₁ → c.maxLocals = maxL → Pc args s →
      W p l e (headSpec ws rm).room s m args below meth c s.heap [] 0 0 (vx_MQ below Qc XC args s mc ms free) (entryFrame m args maxL)) : vx_Met l y ws rm Pc Qc XC mc ms free := by
  refine MetFree.of_bodyS (code := cc) (maxLocals := maxL) (ret := ret) hy ?_ ?_
  · intro args s m h hn
    obtain ⟨m9, meth, c, hn9, h1, h2, h3, h4, -, h5, h6, -⟩ := Cond.codeWith_spec (atoms_spec (ws := ws) h _ (by rw [hw]; exact List.mem_cons_self))
    cases hn.symm.trans hn9
    exact ⟨meth, c, h1, h2, h3, h4, h5, h6⟩
  · intro p e s m args below meth c s₁ B hml hP _
    have hh0 : s₁.heap = s.heap := by rw [B.state]; rfl
    obtain ⟨t, a1, o, b1, b2, b3⟩ := body p e s m args below meth c s₁ B hml hP s₁ hh0 (Stand.of_body B)
    exact ⟨t, o, a1, b1, b2, b3⟩
/-! ===== END ===== -/
end
section
/-! ===== BEGIN printed: names, fields, word lists, decode rows ===== -/
def RX0 : String := "CertifiedBooks$Entry"
def TX0 : u_T := fun k => match k with
  | 0 => ("CertifiedBooks$Entry", "procedure", "I", false)
  | 1 => ("CertifiedBooks$Entry", "amount", "J", false)
  | 2 => ("CertifiedBooks$Entry", "asker", "I", false)
  | 3 => ("CertifiedBooks$Entry", "approver", "I", false)
  | 4 => ("CertifiedBooks$Entry", "reversalOf", "I", false)
  | _ => ("CertifiedBooks$Entry", "reversedBy", "I", false)
def tyX0 : Nat → FieldType := fun k => match k with
  | 0 => .int
  | 1 => .long
  | 2 => .int
  | 3 => .int
  | 4 => .int
  | _ => .int
abbrev wsX00 : List Cond := u_ws RX0 TX0 6
theorem nmX0 : ∀ a, a < 6 → ∀ b, b < 6 → a ≠ b → (TX0 a).2.1 ≠ (TX0 b).2.1 := by decide +kernel
theorem tyX0_ok : ∀ k, k < 6 → parseFieldDescriptor (TX0 k).2.2.1 = some (tyX0 k) := by decide +kernel
abbrev cX0_init : ByteArray := prog_2_method_1_code
def yX0_init : MethodName := ⟨RX0, "<init>", "()V"⟩
abbrev cX0_fill : ByteArray := prog_2_method_2_code
def yX0_fill : MethodName := ⟨RX0, "fill", "(IJIII)V"⟩
def RX1 : String := "CertifiedBooks$Procedure"
def TX1 : u_T := fun k => match k with
  | 0 => ("CertifiedBooks$Procedure", "accounts", "[I", true)
  | 1 => ("CertifiedBooks$Procedure", "shares", "[I", true)
  | 2 => ("CertifiedBooks$Procedure", "lineCount", "I", false)
  | 3 => ("CertifiedBooks$Procedure", "certifier", "I", false)
  | _ => ("CertifiedBooks$Procedure", "grants", "[Z", true)
def tyX1 : Nat → FieldType := fun k => match k with
  | 0 => .array .int
  | 1 => .array .int
  | 2 => .int
  | 3 => .int
  | _ => .array .boolean
abbrev wsX10 : List Cond := u_ws RX1 TX1 5
theorem nmX1 : ∀ a, a < 5 → ∀ b, b < 5 → a ≠ b → (TX1 a).2.1 ≠ (TX1 b).2.1 := by decide +kernel
theorem tyX1_ok : ∀ k, k < 5 → parseFieldDescriptor (TX1 k).2.2.1 = some (tyX1 k) := by decide +kernel
abbrev cX1_init : ByteArray := prog_3_method_1_code
def yX1_init : MethodName := ⟨RX1, "<init>", "()V"⟩
abbrev cX1_isCertified : ByteArray := prog_3_method_2_code
def yX1_isCertified : MethodName := ⟨RX1, "isCertified", "()Z"⟩
abbrev cX1_hasLineFor : ByteArray := prog_3_method_3_code
def yX1_hasLineFor : MethodName := ⟨RX1, "hasLineFor", "(I)Z"⟩
abbrev cX1_appendLine : ByteArray := prog_3_method_4_code
def yX1_appendLine : MethodName := ⟨RX1, "appendLine", "(II)V"⟩
abbrev cX1_shareSum : ByteArray := prog_3_method_5_code
def yX1_shareSum : MethodName := ⟨RX1, "shareSum", "()I"⟩
abbrev cX1_computePostings : ByteArray := prog_3_method_6_code
def yX1_computePostings : MethodName := ⟨RX1, "computePostings", "(J[J)V"⟩
def RX2 : String := "CertifiedBooks$Request"
def TX2 : u_T := fun k => match k with
  | 0 => ("CertifiedBooks$Request", "asker", "I", false)
  | 1 => ("CertifiedBooks$Request", "procedure", "I", false)
  | _ => ("CertifiedBooks$Request", "amount", "J", false)
def tyX2 : Nat → FieldType := fun k => match k with
  | 0 => .int
  | 1 => .int
  | _ => .long
abbrev wsX20 : List Cond := u_ws RX2 TX2 3
theorem nmX2 : ∀ a, a < 3 → ∀ b, b < 3 → a ≠ b → (TX2 a).2.1 ≠ (TX2 b).2.1 := by decide +kernel
theorem tyX2_ok : ∀ k, k < 3 → parseFieldDescriptor (TX2 k).2.2.1 = some (tyX2 k) := by decide +kernel
abbrev cX2_init : ByteArray := prog_4_method_1_code
def yX2_init : MethodName := ⟨RX2, "<init>", "()V"⟩
abbrev cX2_isInUse : ByteArray := prog_4_method_2_code
def yX2_isInUse : MethodName := ⟨RX2, "isInUse", "()Z"⟩
abbrev cX2_fill : ByteArray := prog_4_method_3_code
def yX2_fill : MethodName := ⟨RX2, "fill", "(IIJ)V"⟩
abbrev cX2_clear : ByteArray := prog_4_method_4_code
def yX2_clear : MethodName := ⟨RX2, "clear", "()V"⟩
def RX3 : String := "CertifiedBooks"
def TX3 : u_T := fun k => match k with
  | 0 => ("CertifiedBooks", "balances", "[J", true)
  | 1 => ("CertifiedBooks", "floors", "[J", true)
  | 2 => ("CertifiedBooks", "procedures", "[LCertifiedBooks$Procedure;", true)
  | 3 => ("CertifiedBooks", "procedureCount", "I", false)
  | 4 => ("CertifiedBooks", "requests", "[LCertifiedBooks$Request;", true)
  | 5 => ("CertifiedBooks", "log", "[LCertifiedBooks$Entry;", true)
  | 6 => ("CertifiedBooks", "entryCount", "I", false)
  | 7 => ("CertifiedBooks", "totals", "[[J", true)
  | _ => ("CertifiedBooks", "postings", "[J", true)
def tyX3 : Nat → FieldType := fun k => match k with
  | 0 => .array .long
  | 1 => .array .long
  | 2 => .array (.object "CertifiedBooks$Procedure")
  | 3 => .int
  | 4 => .array (.object "CertifiedBooks$Request")
  | 5 => .array (.object "CertifiedBooks$Entry")
  | 6 => .int
  | 7 => .array (.array .long)
  | _ => .array .long
abbrev wsX30 : List Cond := u_ws RX3 TX3 9
theorem nmX3 : ∀ a, a < 9 → ∀ b, b < 9 → a ≠ b → (TX3 a).2.1 ≠ (TX3 b).2.1 := by decide +kernel
theorem tyX3_ok : ∀ k, k < 9 → parseFieldDescriptor (TX3 k).2.2.1 = some (tyX3 k) := by decide +kernel
abbrev cX3_init : ByteArray := prog_1_method_1_code
def yX3_init : MethodName := ⟨RX3, "<init>", "()V"⟩
abbrev cX3_draw : ByteArray := prog_1_method_2_code
def yX3_draw : MethodName := ⟨RX3, "draw", "(II)I"⟩
abbrev cX3_add : ByteArray := prog_1_method_3_code
def yX3_add : MethodName := ⟨RX3, "add", "(III)I"⟩
abbrev cX3_certify : ByteArray := prog_1_method_4_code
def yX3_certify : MethodName := ⟨RX3, "certify", "(II)V"⟩
abbrev cX3_grant : ByteArray := prog_1_method_5_code
def yX3_grant : MethodName := ⟨RX3, "grant", "(IIIZ)Z"⟩
abbrev cX3_floor : ByteArray := prog_1_method_6_code
def yX3_floor : MethodName := ⟨RX3, "floor", "(IIJ)J"⟩
abbrev cX3_ask : ByteArray := prog_1_method_7_code
def yX3_ask : MethodName := ⟨RX3, "ask", "(IIJ)I"⟩
abbrev cX3_approve : ByteArray := prog_1_method_8_code
def yX3_approve : MethodName := ⟨RX3, "approve", "(II)I"⟩
abbrev cX3_withdraw : ByteArray := prog_1_method_9_code
def yX3_withdraw : MethodName := ⟨RX3, "withdraw", "(II)V"⟩
abbrev cX3_reverse : ByteArray := prog_1_method_10_code
def yX3_reverse : MethodName := ⟨RX3, "reverse", "(II)I"⟩
abbrev cX3_tamper : ByteArray := prog_1_method_11_code
def yX3_tamper : MethodName := ⟨RX3, "tamper", "(IJ)J"⟩
abbrev cX3_sound : ByteArray := prog_1_method_12_code
def yX3_sound : MethodName := ⟨RX3, "sound", "()Z"⟩
abbrev cX3_restore : ByteArray := prog_1_method_13_code
def yX3_restore : MethodName := ⟨RX3, "restore", "(I)I"⟩
abbrev cX3_balance : ByteArray := prog_1_method_14_code
def yX3_balance : MethodName := ⟨RX3, "balance", "(I)J"⟩
abbrev cX3_balanceAt : ByteArray := prog_1_method_15_code
def yX3_balanceAt : MethodName := ⟨RX3, "balanceAt", "(II)J"⟩
abbrev cX3_entries : ByteArray := prog_1_method_16_code
def yX3_entries : MethodName := ⟨RX3, "entries", "()I"⟩
abbrev cX3_entry : ByteArray := prog_1_method_17_code
def yX3_entry : MethodName := ⟨RX3, "entry", "(II)I"⟩
abbrev cX3_amount : ByteArray := prog_1_method_18_code
def yX3_amount : MethodName := ⟨RX3, "amount", "(I)J"⟩
abbrev cX3_requested : ByteArray := prog_1_method_19_code
def yX3_requested : MethodName := ⟨RX3, "requested", "(I)I"⟩
abbrev cX3_mayRun : ByteArray := prog_1_method_20_code
def yX3_mayRun : MethodName := ⟨RX3, "mayRun", "(II)Z"⟩
abbrev cX3_mayApprove : ByteArray := prog_1_method_21_code
def yX3_mayApprove : MethodName := ⟨RX3, "mayApprove", "(ILCertifiedBooks$Request;)Z"⟩
abbrev cX3_fileRequest : ByteArray := prog_1_method_22_code
def yX3_fileRequest : MethodName := ⟨RX3, "fileRequest", "(IIJ)I"⟩
abbrev cX3_runAndLog : ByteArray := prog_1_method_23_code
def yX3_runAndLog : MethodName := ⟨RX3, "runAndLog", "(IJIII)I"⟩
abbrev cX3_negatePostings : ByteArray := prog_1_method_24_code
def yX3_negatePostings : MethodName := ⟨RX3, "negatePostings", "()V"⟩
abbrev cX3_requireNoLineFails : ByteArray := prog_1_method_25_code
def yX3_requireNoLineFails : MethodName := ⟨RX3, "requireNoLineFails", "(LCertifiedBooks$Procedure;)V"⟩
abbrev cX3_countUnsoundBalances : ByteArray := prog_1_method_26_code
def yX3_countUnsoundBalances : MethodName := ⟨RX3, "countUnsoundBalances", "()I"⟩
abbrev cX3_requireBooksTakeRun : ByteArray := prog_1_method_27_code
def yX3_requireBooksTakeRun : MethodName := ⟨RX3, "requireBooksTakeRun", "()V"⟩
abbrev cX3_requireMayRun : ByteArray := prog_1_method_28_code
def yX3_requireMayRun : MethodName := ⟨RX3, "requireMayRun", "(II)V"⟩
abbrev cX3_requireProcedure : ByteArray := prog_1_method_29_code
def yX3_requireProcedure : MethodName := ⟨RX3, "requireProcedure", "(I)V"⟩
abbrev cX3_requireRequest : ByteArray := prog_1_method_30_code
def yX3_requireRequest : MethodName := ⟨RX3, "requireRequest", "(I)V"⟩
abbrev cX3_requireEntry : ByteArray := prog_1_method_31_code
def yX3_requireEntry : MethodName := ⟨RX3, "requireEntry", "(I)V"⟩
abbrev cX3_isProcedure : ByteArray := prog_1_method_32_code
def yX3_isProcedure : MethodName := ⟨RX3, "isProcedure", "(I)Z"⟩
abbrev cX3_isUser : ByteArray := prog_1_method_33_code
def yX3_isUser : MethodName := ⟨RX3, "isUser", "(I)Z"⟩
abbrev cX3_isBeyondLimit : ByteArray := prog_1_method_34_code
def yX3_isBeyondLimit : MethodName := ⟨RX3, "isBeyondLimit", "(J)Z"⟩
abbrev cX3_requireAccount : ByteArray := prog_1_method_35_code
def yX3_requireAccount : MethodName := ⟨RX3, "requireAccount", "(I)V"⟩
abbrev cX3_requireUser : ByteArray := prog_1_method_36_code
def yX3_requireUser : MethodName := ⟨RX3, "requireUser", "(I)V"⟩
abbrev cX3_requireOfficer : ByteArray := prog_1_method_37_code
def yX3_requireOfficer : MethodName := ⟨RX3, "requireOfficer", "(I)V"⟩
abbrev cX3_requireShare : ByteArray := prog_1_method_38_code
def yX3_requireShare : MethodName := ⟨RX3, "requireShare", "(I)V"⟩
def RX4 : String := "CertifiedBooksModel"
def TX4 : u_T := fun k => match k with
  | 0 => ("CertifiedBooksModel", "thrown", "I", false)
  | 1 => ("CertifiedBooksModel", "balances", "[J", false)
  | 2 => ("CertifiedBooksModel", "floors", "[J", false)
  | 3 => ("CertifiedBooksModel", "procedures", "I", false)
  | 4 => ("CertifiedBooksModel", "lines", "[I", false)
  | 5 => ("CertifiedBooksModel", "certifier", "[I", false)
  | 6 => ("CertifiedBooksModel", "accounts", "[I", false)
  | 7 => ("CertifiedBooksModel", "shares", "[I", false)
  | 8 => ("CertifiedBooksModel", "granted", "[Z", false)
  | 9 => ("CertifiedBooksModel", "entries", "I", false)
  | 10 => ("CertifiedBooksModel", "ran", "[I", false)
  | 11 => ("CertifiedBooksModel", "amounts", "[J", false)
  | 12 => ("CertifiedBooksModel", "asker", "[I", false)
  | 13 => ("CertifiedBooksModel", "approver", "[I", false)
  | 14 => ("CertifiedBooksModel", "reversalOf", "[I", false)
  | 15 => ("CertifiedBooksModel", "reversedBy", "[I", false)
  | 16 => ("CertifiedBooksModel", "who", "[I", false)
  | 17 => ("CertifiedBooksModel", "wanted", "[I", false)
  | 18 => ("CertifiedBooksModel", "sums", "[J", false)
  | _ => ("CertifiedBooksModel", "posts", "[J", false)
def tyX4 : Nat → FieldType := fun k => match k with
  | 0 => .int
  | 1 => .array .long
  | 2 => .array .long
  | 3 => .int
  | 4 => .array .int
  | 5 => .array .int
  | 6 => .array .int
  | 7 => .array .int
  | 8 => .array .boolean
  | 9 => .int
  | 10 => .array .int
  | 11 => .array .long
  | 12 => .array .int
  | 13 => .array .int
  | 14 => .array .int
  | 15 => .array .int
  | 16 => .array .int
  | 17 => .array .int
  | 18 => .array .long
  | _ => .array .long
abbrev wsX40 : List Cond := u_ws RX4 TX4 20
theorem nmX4 : ∀ a, a < 20 → ∀ b, b < 20 → a ≠ b → (TX4 a).2.1 ≠ (TX4 b).2.1 := by decide +kernel
theorem tyX4_ok : ∀ k, k < 20 → parseFieldDescriptor (TX4 k).2.2.1 = some (tyX4 k) := by decide +kernel
abbrev cX4_init : ByteArray := prog_6_method_1_code
def yX4_init : MethodName := ⟨RX4, "<init>", "()V"⟩
abbrev cX4_thrown : ByteArray := prog_6_method_2_code
def yX4_thrown : MethodName := ⟨RX4, "thrown", "()I"⟩
abbrev cX4_isOne : ByteArray := prog_6_method_3_code
def yX4_isOne : MethodName := ⟨RX4, "isOne", "(I)Z"⟩
abbrev cX4_isProcedure : ByteArray := prog_6_method_4_code
def yX4_isProcedure : MethodName := ⟨RX4, "isProcedure", "(I)Z"⟩
abbrev cX4_isOfficer : ByteArray := prog_6_method_5_code
def yX4_isOfficer : MethodName := ⟨RX4, "isOfficer", "(I)Z"⟩
abbrev cX4_isShare : ByteArray := prog_6_method_6_code
def yX4_isShare : MethodName := ⟨RX4, "isShare", "(I)Z"⟩
abbrev cX4_draw : ByteArray := prog_6_method_7_code
def yX4_draw : MethodName := ⟨RX4, "draw", "(II)I"⟩
abbrev cX4_hasLine : ByteArray := prog_6_method_8_code
def yX4_hasLine : MethodName := ⟨RX4, "hasLine", "(II)Z"⟩
abbrev cX4_add : ByteArray := prog_6_method_9_code
def yX4_add : MethodName := ⟨RX4, "add", "(III)I"⟩
abbrev cX4_allShares : ByteArray := prog_6_method_10_code
def yX4_allShares : MethodName := ⟨RX4, "allShares", "(I)I"⟩
abbrev cX4_certify : ByteArray := prog_6_method_11_code
def yX4_certify : MethodName := ⟨RX4, "certify", "(II)V"⟩
abbrev cX4_grant : ByteArray := prog_6_method_12_code
def yX4_grant : MethodName := ⟨RX4, "grant", "(IIIZ)Z"⟩
abbrev cX4_may : ByteArray := prog_6_method_13_code
def yX4_may : MethodName := ⟨RX4, "may", "(II)Z"⟩
abbrev cX4_mayRun : ByteArray := prog_6_method_14_code
def yX4_mayRun : MethodName := ⟨RX4, "mayRun", "(II)Z"⟩
abbrev cX4_floor : ByteArray := prog_6_method_15_code
def yX4_floor : MethodName := ⟨RX4, "floor", "(IIJ)J"⟩
abbrev cX4_findPosts : ByteArray := prog_6_method_16_code
def yX4_findPosts : MethodName := ⟨RX4, "findPosts", "(IJ)V"⟩
abbrev cX4_run : ByteArray := prog_6_method_17_code
def yX4_run : MethodName := ⟨RX4, "run", "(IJJ)Z"⟩
abbrev cX4_logged : ByteArray := prog_6_method_18_code
def yX4_logged : MethodName := ⟨RX4, "logged", "(II)J"⟩
abbrev cX4_isSound : ByteArray := prog_6_method_19_code
def yX4_isSound : MethodName := ⟨RX4, "isSound", "()Z"⟩
abbrev cX4_sound : ByteArray := prog_6_method_20_code
def yX4_sound : MethodName := ⟨RX4, "sound", "()Z"⟩
abbrev cX4_enter : ByteArray := prog_6_method_21_code
def yX4_enter : MethodName := ⟨RX4, "enter", "(IJIII)I"⟩
abbrev cX4_freeRequest : ByteArray := prog_6_method_22_code
def yX4_freeRequest : MethodName := ⟨RX4, "freeRequest", "()I"⟩
abbrev cX4_request : ByteArray := prog_6_method_23_code
def yX4_request : MethodName := ⟨RX4, "request", "(IIJ)I"⟩
abbrev cX4_ask : ByteArray := prog_6_method_24_code
def yX4_ask : MethodName := ⟨RX4, "ask", "(IIJ)I"⟩
abbrev cX4_isRequest : ByteArray := prog_6_method_25_code
def yX4_isRequest : MethodName := ⟨RX4, "isRequest", "(I)Z"⟩
abbrev cX4_mayApprove : ByteArray := prog_6_method_26_code
def yX4_mayApprove : MethodName := ⟨RX4, "mayApprove", "(II)Z"⟩
abbrev cX4_approve : ByteArray := prog_6_method_27_code
def yX4_approve : MethodName := ⟨RX4, "approve", "(II)I"⟩
abbrev cX4_withdraw : ByteArray := prog_6_method_28_code
def yX4_withdraw : MethodName := ⟨RX4, "withdraw", "(II)V"⟩
abbrev cX4_isEntry : ByteArray := prog_6_method_29_code
def yX4_isEntry : MethodName := ⟨RX4, "isEntry", "(I)Z"⟩
abbrev cX4_reverse : ByteArray := prog_6_method_30_code
def yX4_reverse : MethodName := ⟨RX4, "reverse", "(II)I"⟩
abbrev cX4_tamper : ByteArray := prog_6_method_31_code
def yX4_tamper : MethodName := ⟨RX4, "tamper", "(IJ)J"⟩
abbrev cX4_restore : ByteArray := prog_6_method_32_code
def yX4_restore : MethodName := ⟨RX4, "restore", "(I)I"⟩
abbrev cX4_balance : ByteArray := prog_6_method_33_code
def yX4_balance : MethodName := ⟨RX4, "balance", "(I)J"⟩
abbrev cX4_balanceAt : ByteArray := prog_6_method_34_code
def yX4_balanceAt : MethodName := ⟨RX4, "balanceAt", "(II)J"⟩
abbrev cX4_entries : ByteArray := prog_6_method_35_code
def yX4_entries : MethodName := ⟨RX4, "entries", "()I"⟩
abbrev cX4_entry : ByteArray := prog_6_method_36_code
def yX4_entry : MethodName := ⟨RX4, "entry", "(II)I"⟩
abbrev cX4_amount : ByteArray := prog_6_method_37_code
def yX4_amount : MethodName := ⟨RX4, "amount", "(I)J"⟩
abbrev cX4_requested : ByteArray := prog_6_method_38_code
def yX4_requested : MethodName := ⟨RX4, "requested", "(I)I"⟩
def RJ0 : String := "java/lang/String"
def TJ0 : u_T := fun k => match k with
  | _ => ("", "", "", false)
def tyJ0 : Nat → FieldType := fun k => match k with
  | _ => .int
abbrev wsJ00 : List Cond := u_ws RJ0 TJ0 0
theorem nmJ0 : ∀ a, a < 0 → ∀ b, b < 0 → a ≠ b → (TJ0 a).2.1 ≠ (TJ0 b).2.1 := by decide +kernel
theorem tyJ0_ok : ∀ k, k < 0 → parseFieldDescriptor (TJ0 k).2.2.1 = some (tyJ0 k) := by decide +kernel
def RJ10 : String := "java/lang/System"
def TJ10 : u_T := fun k => match k with
  | _ => ("", "", "", false)
def tyJ10 : Nat → FieldType := fun k => match k with
  | _ => .int
abbrev wsJ100 : List Cond := u_ws RJ10 TJ10 0
theorem nmJ10 : ∀ a, a < 0 → ∀ b, b < 0 → a ≠ b → (TJ10 a).2.1 ≠ (TJ10 b).2.1 := by decide +kernel
theorem tyJ10_ok : ∀ k, k < 0 → parseFieldDescriptor (TJ10 k).2.2.1 = some (tyJ10 k) := by decide +kernel
def RL : String := "CertifiedBooksLaw"
abbrev cL_draw : ByteArray := method_3_code
def yL_draw : MethodName := ⟨RL, "draw", "(LCertifiedBooks;II[J)I"⟩
abbrev cL_add : ByteArray := method_4_code
def yL_add : MethodName := ⟨RL, "add", "(LCertifiedBooks;III[J)I"⟩
abbrev cL_certify : ByteArray := method_5_code
def yL_certify : MethodName := ⟨RL, "certify", "(LCertifiedBooks;II)I"⟩
abbrev cL_grant : ByteArray := method_6_code
def yL_grant : MethodName := ⟨RL, "grant", "(LCertifiedBooks;IIIZ[J)I"⟩
abbrev cL_floor : ByteArray := method_7_code
def yL_floor : MethodName := ⟨RL, "floor", "(LCertifiedBooks;IIJ[J)I"⟩
abbrev cL_ask : ByteArray := method_8_code
def yL_ask : MethodName := ⟨RL, "ask", "(LCertifiedBooks;IIJ[J)I"⟩
abbrev cL_approve : ByteArray := method_9_code
def yL_approve : MethodName := ⟨RL, "approve", "(LCertifiedBooks;II[J)I"⟩
abbrev cL_withdraw : ByteArray := method_10_code
def yL_withdraw : MethodName := ⟨RL, "withdraw", "(LCertifiedBooks;II)I"⟩
abbrev cL_reverse : ByteArray := method_11_code
def yL_reverse : MethodName := ⟨RL, "reverse", "(LCertifiedBooks;II[J)I"⟩
abbrev cL_tamper : ByteArray := method_12_code
def yL_tamper : MethodName := ⟨RL, "tamper", "(LCertifiedBooks;IJ[J)I"⟩
abbrev cL_restore : ByteArray := method_13_code
def yL_restore : MethodName := ⟨RL, "restore", "(LCertifiedBooks;I[J)I"⟩
abbrev cL_balance : ByteArray := method_14_code
def yL_balance : MethodName := ⟨RL, "balance", "(LCertifiedBooks;I[J)I"⟩
abbrev cL_balanceAt : ByteArray := method_15_code
def yL_balanceAt : MethodName := ⟨RL, "balanceAt", "(LCertifiedBooks;II[J)I"⟩
abbrev cL_entry : ByteArray := method_16_code
def yL_entry : MethodName := ⟨RL, "entry", "(LCertifiedBooks;II[J)I"⟩
abbrev cL_amount : ByteArray := method_17_code
def yL_amount : MethodName := ⟨RL, "amount", "(LCertifiedBooks;I[J)I"⟩
abbrev cL_requested : ByteArray := method_18_code
def yL_requested : MethodName := ⟨RL, "requested", "(LCertifiedBooks;I[J)I"⟩
abbrev cL_law : ByteArray := code
def yL_law : MethodName := ⟨RL, "law", "([I)Z"⟩
abbrev vwCl : List vw_C := [(RX0, TX0, 6), (RX1, TX1, 5), (RX2, TX2, 3), (RX3, TX3, 9), (RX4, TX4, 20)]
end
section
theorem inX0_t : ∀ w ∈ u_ws RX0 TX0 6, w ∈ lw_tbl := by decide +kernel
theorem inX1_t : ∀ w ∈ u_ws RX1 TX1 5, w ∈ lw_tbl := by decide +kernel
theorem inX2_t : ∀ w ∈ u_ws RX2 TX2 3, w ∈ lw_tbl := by decide +kernel
theorem inX3_t : ∀ w ∈ u_ws RX3 TX3 9, w ∈ lw_tbl := by decide +kernel
theorem inX4_t : ∀ w ∈ u_ws RX4 TX4 20, w ∈ lw_tbl := by decide +kernel
/-- the tables' words that stay under warmer tables -/
def WS : List Cond := lw_tbl.filter goodWord
theorem mws {w : Cond} (h : w ∈ lw_tbl) (g : goodWord w = true) : w ∈ WS := List.mem_filter.mpr ⟨h, g⟩
theorem tb1 {w : Cond} (i : Nat) (h : tables_1_1[i]? = some w) : w ∈ lw_tbl := List.mem_append_right _ (List.mem_append_left _ (List.mem_of_getElem? h))
theorem tb2 {w : Cond} (i : Nat) (h : tables_1_2[i]? = some w) : w ∈ lw_tbl := List.mem_append_right _ (List.mem_append_right _ (List.mem_append_left _ (List.mem_of_getElem? h)))
theorem tb3 {w : Cond} (i : Nat) (h : tables_1_3[i]? = some w) : w ∈ lw_tbl := List.mem_append_right _ (List.mem_append_right _ (List.mem_append_right _ (List.mem_append_left _ (List.mem_of_getElem? h))))
theorem tb4 {w : Cond} (i : Nat) (h : tables_1_4[i]? = some w) : w ∈ lw_tbl := List.mem_append_right _ (List.mem_append_right _ (List.mem_append_right _ (List.mem_append_right _ (List.mem_of_getElem? h))))
theorem tp1 {q : MethodName × Nat} (i : Nat) (h : lw_privs_1[i]? = some q) : Cond.selects q.1.cls q.1 q.1 ∈ lw_tbl := List.mem_append_left _ (List.mem_map_of_mem (f := fun q : MethodName × Nat => Cond.selects q.1.cls q.1 q.1) (List.mem_append_left _ (List.mem_of_getElem? h)))
theorem tp2 {q : MethodName × Nat} (i : Nat) (h : lw_privs_2[i]? = some q) : Cond.selects q.1.cls q.1 q.1 ∈ lw_tbl := List.mem_append_left _ (List.mem_map_of_mem (f := fun q : MethodName × Nat => Cond.selects q.1.cls q.1 q.1) (List.mem_append_right _ (List.mem_append_left _ (List.mem_of_getElem? h))))
theorem tp3 {q : MethodName × Nat} (i : Nat) (h : lw_privs_3[i]? = some q) : Cond.selects q.1.cls q.1 q.1 ∈ lw_tbl := List.mem_append_left _ (List.mem_map_of_mem (f := fun q : MethodName × Nat => Cond.selects q.1.cls q.1 q.1) (List.mem_append_right _ (List.mem_append_right _ (List.mem_of_getElem? h))))
theorem kini_L : Cond.initialized RL ∈ WS := mws (tb1 0 rfl) rfl
theorem kini_X3 : Cond.initialized RX3 ∈ WS := mws (tb1 1 rfl) rfl
theorem kini_X1 : Cond.initialized RX1 ∈ WS := mws (tb1 2 rfl) rfl
theorem kini_X2 : Cond.initialized RX2 ∈ WS := mws (tb1 3 rfl) rfl
theorem kini_X0 : Cond.initialized RX0 ∈ WS := mws (tb1 4 rfl) rfl
theorem kini_X4 : Cond.initialized RX4 ∈ WS := mws (tb1 5 rfl) rfl
theorem kini_Throwable : Cond.initialized "java/lang/Throwable" ∈ WS := mws (tb1 6 rfl) rfl
theorem kini_Exception : Cond.initialized "java/lang/Exception" ∈ WS := mws (tb1 7 rfl) rfl
theorem kini_RuntimeException : Cond.initialized "java/lang/RuntimeException" ∈ WS := mws (tb1 8 rfl) rfl
theorem kini_IndexOutOfBoundsException : Cond.initialized "java/lang/IndexOutOfBoundsException" ∈ WS := mws (tb1 9 rfl) rfl
theorem kini_IllegalArgumentException : Cond.initialized "java/lang/IllegalArgumentException" ∈ WS := mws (tb1 10 rfl) rfl
theorem kini_IllegalStateException : Cond.initialized "java/lang/IllegalStateException" ∈ WS := mws (tb1 11 rfl) rfl
theorem kini_UnsupportedOperationException : Cond.initialized "java/lang/UnsupportedOperationException" ∈ WS := mws (tb1 12 rfl) rfl
theorem kini_System : Cond.initialized "java/lang/System" ∈ WS := mws (tb1 13 rfl) rfl
theorem kcl_L_8 : Cond.classLink RL 8 RX3 ∈ WS := mws (tb1 14 rfl) rfl
theorem kinst_X3 : Cond.instantiable RX3 9 ∈ WS := mws (tb1 15 rfl) rfl
theorem kl_L_75 : Cond.methodLink RL 75 yX3_init ∈ WS := mws (tb1 16 rfl) rfl
theorem ki_X3_init : Cond.instanceMethod yX3_init ∈ WS := mws (tb1 17 rfl) rfl
theorem kc_X3_init : Cond.code yX3_init cX3_init 2 none ∈ WS := mws (tb1 18 rfl) rfl
theorem kl_X3_1 : Cond.methodLink RX3 1 objectInit ∈ WS := mws (tb1 19 rfl) rfl
theorem ki_objInit : Cond.instanceMethod objectInit ∈ WS := mws (tb1 20 rfl) rfl
theorem kc_objInit : Cond.code objectInit ⟨#[0xb1]⟩ 1 none ∈ WS := mws (tb1 21 rfl) rfl
theorem kcl_X3_16 : Cond.classLink RX3 16 RX1 ∈ WS := mws (tb1 22 rfl) rfl
theorem kcl_X3_26 : Cond.classLink RX3 26 RX2 ∈ WS := mws (tb1 24 rfl) rfl
theorem kcl_X3_32 : Cond.classLink RX3 32 RX0 ∈ WS := mws (tb1 26 rfl) rfl
theorem kcl_X3_41 : Cond.classLink RX3 41 "[[J" ∈ WS := mws (tb1 28 rfl) rfl
theorem kcn_X3_49 : Cond.constantLong RX3 49 (-1000000000000) ∈ WS := mws (tb1 30 rfl) rfl
theorem kinst_X1 : Cond.instantiable RX1 5 ∈ WS := mws (tb1 31 rfl) rfl
theorem ki_X1_init : Cond.instanceMethod yX1_init ∈ WS := mws (tb1 33 rfl) rfl
theorem kc_X1_init : Cond.code yX1_init cX1_init 1 none ∈ WS := mws (tb1 34 rfl) rfl
theorem kl_X1_3 : Cond.methodLink RX1 3 objectInit ∈ WS := mws (tb1 35 rfl) rfl
theorem kf_X1_9 : Cond.fieldLink RX1 9 "CertifiedBooks$Procedure" "accounts" "[I" ∈ WS := mws (tb1 36 rfl) rfl
theorem kf_X1_15 : Cond.fieldLink RX1 15 "CertifiedBooks$Procedure" "shares" "[I" ∈ WS := mws (tb1 38 rfl) rfl
theorem kf_X1_18 : Cond.fieldLink RX1 18 "CertifiedBooks$Procedure" "lineCount" "I" ∈ WS := mws (tb1 39 rfl) rfl
theorem kf_X1_22 : Cond.fieldLink RX1 22 "CertifiedBooks$Procedure" "certifier" "I" ∈ WS := mws (tb1 41 rfl) rfl
theorem kf_X1_25 : Cond.fieldLink RX1 25 "CertifiedBooks$Procedure" "grants" "[Z" ∈ WS := mws (tb1 43 rfl) rfl
theorem kac_long : Cond.arrayClass .long ∈ WS := mws (tb1 56 rfl) rfl
theorem kac_int : Cond.arrayClass .int ∈ WS := mws (tb1 57 rfl) rfl
theorem kac_boolean : Cond.arrayClass .boolean ∈ WS := mws (tb1 58 rfl) rfl
theorem kinst_X2 : Cond.instantiable RX2 3 ∈ WS := mws (tb1 59 rfl) rfl
theorem ki_X2_init : Cond.instanceMethod yX2_init ∈ WS := mws (tb1 61 rfl) rfl
theorem kc_X2_init : Cond.code yX2_init cX2_init 1 none ∈ WS := mws (tb1 62 rfl) rfl
theorem kl_X2_3 : Cond.methodLink RX2 3 objectInit ∈ WS := mws (tb1 63 rfl) rfl
theorem kf_X2_9 : Cond.fieldLink RX2 9 "CertifiedBooks$Request" "asker" "I" ∈ WS := mws (tb1 64 rfl) rfl
theorem kf_X2_15 : Cond.fieldLink RX2 15 "CertifiedBooks$Request" "procedure" "I" ∈ WS := mws (tb1 66 rfl) rfl
theorem kf_X2_18 : Cond.fieldLink RX2 18 "CertifiedBooks$Request" "amount" "J" ∈ WS := mws (tb1 68 rfl) rfl
theorem kinst_X0 : Cond.instantiable RX0 6 ∈ WS := mws (tb1 77 rfl) rfl
theorem ki_X0_init : Cond.instanceMethod yX0_init ∈ WS := mws (tb1 79 rfl) rfl
theorem kc_X0_init : Cond.code yX0_init cX0_init 1 none ∈ WS := mws (tb1 80 rfl) rfl
theorem kl_X0_3 : Cond.methodLink RX0 3 objectInit ∈ WS := mws (tb1 81 rfl) rfl
theorem kf_X0_9 : Cond.fieldLink RX0 9 "CertifiedBooks$Entry" "procedure" "I" ∈ WS := mws (tb1 82 rfl) rfl
theorem kf_X0_15 : Cond.fieldLink RX0 15 "CertifiedBooks$Entry" "amount" "J" ∈ WS := mws (tb1 84 rfl) rfl
theorem kf_X0_19 : Cond.fieldLink RX0 19 "CertifiedBooks$Entry" "asker" "I" ∈ WS := mws (tb1 86 rfl) rfl
theorem kf_X0_22 : Cond.fieldLink RX0 22 "CertifiedBooks$Entry" "approver" "I" ∈ WS := mws (tb1 88 rfl) rfl
theorem kf_X0_25 : Cond.fieldLink RX0 25 "CertifiedBooks$Entry" "reversalOf" "I" ∈ WS := mws (tb1 90 rfl) rfl
theorem kf_X0_28 : Cond.fieldLink RX0 28 "CertifiedBooks$Entry" "reversedBy" "I" ∈ WS := mws (tb1 92 rfl) rfl
theorem kf_X3_9 : Cond.fieldLink RX3 9 "CertifiedBooks" "balances" "[J" ∈ WS := mws (tb1 107 rfl) rfl
theorem kf_X3_13 : Cond.fieldLink RX3 13 "CertifiedBooks" "floors" "[J" ∈ WS := mws (tb1 108 rfl) rfl
theorem kf_X3_18 : Cond.fieldLink RX3 18 "CertifiedBooks" "procedures" "[LCertifiedBooks$Procedure;" ∈ WS := mws (tb1 109 rfl) rfl
theorem kf_X3_22 : Cond.fieldLink RX3 22 "CertifiedBooks" "procedureCount" "I" ∈ WS := mws (tb1 110 rfl) rfl
theorem kf_X3_28 : Cond.fieldLink RX3 28 "CertifiedBooks" "requests" "[LCertifiedBooks$Request;" ∈ WS := mws (tb1 111 rfl) rfl
theorem kf_X3_34 : Cond.fieldLink RX3 34 "CertifiedBooks" "log" "[LCertifiedBooks$Entry;" ∈ WS := mws (tb1 112 rfl) rfl
theorem kf_X3_38 : Cond.fieldLink RX3 38 "CertifiedBooks" "entryCount" "I" ∈ WS := mws (tb1 113 rfl) rfl
theorem kf_X3_43 : Cond.fieldLink RX3 43 "CertifiedBooks" "totals" "[[J" ∈ WS := mws (tb1 114 rfl) rfl
theorem kf_X3_46 : Cond.fieldLink RX3 46 "CertifiedBooks" "postings" "[J" ∈ WS := mws (tb1 115 rfl) rfl
theorem kl_L_123 : Cond.methodLink RL 123 yX3_sound ∈ WS := mws (tb1 135 rfl) rfl
theorem ki_X3_sound : Cond.instanceMethod yX3_sound ∈ WS := mws (tb1 136 rfl) rfl
theorem kse_X3_sound : Cond.selects RX3 yX3_sound yX3_sound ∈ WS := mws (tb1 137 rfl) rfl
theorem kc_X3_sound : Cond.code yX3_sound cX3_sound 1 (some .boolean) ∈ WS := mws (tb1 138 rfl) rfl
theorem kl_X3_191 : Cond.methodLink RX3 191 yX3_countUnsoundBalances ∈ WS := mws (tb1 139 rfl) rfl
theorem ki_X3_countUnsoundBalances : Cond.instanceMethod yX3_countUnsoundBalances ∈ WS := mws (tb1 141 rfl) rfl
theorem kc_X3_countUnsoundBalances : Cond.code yX3_countUnsoundBalances cX3_countUnsoundBalances 3 (some .int) ∈ WS := mws (tb1 142 rfl) rfl
theorem kl_L_138 : Cond.methodLink RL 138 yX3_entries ∈ WS := mws (tb1 143 rfl) rfl
theorem ki_X3_entries : Cond.instanceMethod yX3_entries ∈ WS := mws (tb1 144 rfl) rfl
theorem kse_X3_entries : Cond.selects RX3 yX3_entries yX3_entries ∈ WS := mws (tb1 145 rfl) rfl
theorem kc_X3_entries : Cond.code yX3_entries cX3_entries 1 (some .int) ∈ WS := mws (tb1 146 rfl) rfl
theorem kl_L_151 : Cond.methodLink RL 151 yX3_mayRun ∈ WS := mws (tb1 147 rfl) rfl
theorem ki_X3_mayRun : Cond.instanceMethod yX3_mayRun ∈ WS := mws (tb1 148 rfl) rfl
theorem kse_X3_mayRun : Cond.selects RX3 yX3_mayRun yX3_mayRun ∈ WS := mws (tb1 149 rfl) rfl
theorem kc_X3_mayRun : Cond.code yX3_mayRun cX3_mayRun 4 (some .boolean) ∈ WS := mws (tb1 150 rfl) rfl
theorem kl_X3_206 : Cond.methodLink RX3 206 yX3_isUser ∈ WS := mws (tb1 151 rfl) rfl
theorem kst_X3_isUser : Cond.static yX3_isUser ∈ WS := mws (tb1 152 rfl) rfl
theorem kc_X3_isUser : Cond.code yX3_isUser cX3_isUser 1 (some .boolean) ∈ WS := mws (tb1 153 rfl) rfl
theorem kl_X3_209 : Cond.methodLink RX3 209 yX3_isProcedure ∈ WS := mws (tb1 154 rfl) rfl
theorem ki_X3_isProcedure : Cond.instanceMethod yX3_isProcedure ∈ WS := mws (tb1 156 rfl) rfl
theorem kc_X3_isProcedure : Cond.code yX3_isProcedure cX3_isProcedure 2 (some .boolean) ∈ WS := mws (tb1 157 rfl) rfl
theorem ki_X1_isCertified : Cond.instanceMethod yX1_isCertified ∈ WS := mws (tb1 160 rfl) rfl
theorem kc_X1_isCertified : Cond.code yX1_isCertified cX1_isCertified 1 (some .boolean) ∈ WS := mws (tb1 161 rfl) rfl
theorem kl_L_79 : Cond.methodLink RL 79 yL_draw ∈ WS := mws (tb1 162 rfl) rfl
theorem kst_L_draw : Cond.static yL_draw ∈ WS := mws (tb1 163 rfl) rfl
theorem kc_L_draw : Cond.codeWith yL_draw cL_draw 5 (some .int) [(0, 10, 13, 13), (0, 10, 17, 15), (0, 10, 21, 17)] ∈ WS := mws (tb1 164 rfl) rfl
theorem kcl_L_13 : Cond.classLink RL 13 "java/lang/IndexOutOfBoundsException" ∈ WS := mws (tb1 165 rfl) rfl
theorem kcl_L_15 : Cond.classLink RL 15 "java/lang/IllegalArgumentException" ∈ WS := mws (tb1 166 rfl) rfl
theorem kcl_L_17 : Cond.classLink RL 17 "java/lang/IllegalStateException" ∈ WS := mws (tb1 167 rfl) rfl
theorem kl_L_7 : Cond.methodLink RL 7 yX3_draw ∈ WS := mws (tb1 168 rfl) rfl
theorem ki_X3_draw : Cond.instanceMethod yX3_draw ∈ WS := mws (tb1 169 rfl) rfl
theorem kse_X3_draw : Cond.selects RX3 yX3_draw yX3_draw ∈ WS := mws (tb1 170 rfl) rfl
theorem kc_X3_draw : Cond.code yX3_draw cX3_draw 4 (some .int) ∈ WS := mws (tb1 171 rfl) rfl
theorem kl_X3_54 : Cond.methodLink RX3 54 yX3_requireAccount ∈ WS := mws (tb1 172 rfl) rfl
theorem kst_X3_requireAccount : Cond.static yX3_requireAccount ∈ WS := mws (tb1 173 rfl) rfl
theorem kc_X3_requireAccount : Cond.code yX3_requireAccount cX3_requireAccount 1 none ∈ WS := mws (tb1 174 rfl) rfl
theorem kcl_X3_194 : Cond.classLink RX3 194 "java/lang/IndexOutOfBoundsException" ∈ WS := mws (tb1 175 rfl) rfl
theorem kinst_IndexOutOfBoundsException : Cond.instantiable "java/lang/IndexOutOfBoundsException" 6 ∈ WS := mws (tb1 176 rfl) rfl
theorem kinst_Throwable : Cond.instantiable "java/lang/Throwable" 6 ∈ WS := mws (tb1 215 rfl) rfl
theorem kac_byte : Cond.arrayClass .byte ∈ WS := mws (tb2 3 rfl) rfl
theorem kl_X3_58 : Cond.methodLink RX3 58 yX3_requireShare ∈ WS := mws (tb2 4 rfl) rfl
theorem kst_X3_requireShare : Cond.static yX3_requireShare ∈ WS := mws (tb2 5 rfl) rfl
theorem kc_X3_requireShare : Cond.code yX3_requireShare cX3_requireShare 1 none ∈ WS := mws (tb2 6 rfl) rfl
theorem kcl_X3_79 : Cond.classLink RX3 79 "java/lang/IllegalArgumentException" ∈ WS := mws (tb2 7 rfl) rfl
theorem kinst_IllegalArgumentException : Cond.instantiable "java/lang/IllegalArgumentException" 6 ∈ WS := mws (tb2 8 rfl) rfl
theorem kcl_X3_61 : Cond.classLink RX3 61 "java/lang/IllegalStateException" ∈ WS := mws (tb2 23 rfl) rfl
theorem kinst_IllegalStateException : Cond.instantiable "java/lang/IllegalStateException" 6 ∈ WS := mws (tb2 24 rfl) rfl
theorem ki_X1_appendLine : Cond.instanceMethod yX1_appendLine ∈ WS := mws (tb2 41 rfl) rfl
theorem kc_X1_appendLine : Cond.code yX1_appendLine cX1_appendLine 3 none ∈ WS := mws (tb2 42 rfl) rfl
theorem kl_L_89 : Cond.methodLink RL 89 yL_add ∈ WS := mws (tb2 43 rfl) rfl
theorem kst_L_add : Cond.static yL_add ∈ WS := mws (tb2 44 rfl) rfl
theorem kc_L_add : Cond.codeWith yL_add cL_add 6 (some .int) [(0, 12, 15, 13), (0, 12, 19, 15), (0, 12, 23, 17)] ∈ WS := mws (tb2 45 rfl) rfl
theorem kl_L_19 : Cond.methodLink RL 19 yX3_add ∈ WS := mws (tb2 46 rfl) rfl
theorem ki_X3_add : Cond.instanceMethod yX3_add ∈ WS := mws (tb2 47 rfl) rfl
theorem kse_X3_add : Cond.selects RX3 yX3_add yX3_add ∈ WS := mws (tb2 48 rfl) rfl
theorem kc_X3_add : Cond.code yX3_add cX3_add 5 (some .int) ∈ WS := mws (tb2 49 rfl) rfl
theorem kl_X3_72 : Cond.methodLink RX3 72 yX3_requireProcedure ∈ WS := mws (tb2 50 rfl) rfl
theorem ki_X3_requireProcedure : Cond.instanceMethod yX3_requireProcedure ∈ WS := mws (tb2 52 rfl) rfl
theorem kc_X3_requireProcedure : Cond.code yX3_requireProcedure cX3_requireProcedure 2 none ∈ WS := mws (tb2 53 rfl) rfl
theorem ki_X1_hasLineFor : Cond.instanceMethod yX1_hasLineFor ∈ WS := mws (tb2 57 rfl) rfl
theorem kc_X1_hasLineFor : Cond.code yX1_hasLineFor cX1_hasLineFor 3 (some .boolean) ∈ WS := mws (tb2 58 rfl) rfl
theorem kl_L_93 : Cond.methodLink RL 93 yL_certify ∈ WS := mws (tb2 61 rfl) rfl
theorem kst_L_certify : Cond.static yL_certify ∈ WS := mws (tb2 62 rfl) rfl
theorem kc_L_certify : Cond.codeWith yL_certify cL_certify 4 (some .int) [(0, 6, 9, 13), (0, 6, 12, 27), (0, 6, 15, 17)] ∈ WS := mws (tb2 63 rfl) rfl
theorem kcl_L_27 : Cond.classLink RL 27 "java/lang/UnsupportedOperationException" ∈ WS := mws (tb2 64 rfl) rfl
theorem kl_L_23 : Cond.methodLink RL 23 yX3_certify ∈ WS := mws (tb2 65 rfl) rfl
theorem ki_X3_certify : Cond.instanceMethod yX3_certify ∈ WS := mws (tb2 66 rfl) rfl
theorem kse_X3_certify : Cond.selects RX3 yX3_certify yX3_certify ∈ WS := mws (tb2 67 rfl) rfl
theorem kc_X3_certify : Cond.code yX3_certify cX3_certify 4 none ∈ WS := mws (tb2 68 rfl) rfl
theorem kl_X3_93 : Cond.methodLink RX3 93 yX3_requireUser ∈ WS := mws (tb2 69 rfl) rfl
theorem kst_X3_requireUser : Cond.static yX3_requireUser ∈ WS := mws (tb2 70 rfl) rfl
theorem kc_X3_requireUser : Cond.code yX3_requireUser cX3_requireUser 1 none ∈ WS := mws (tb2 71 rfl) rfl
theorem kl_X3_96 : Cond.methodLink RX3 96 yX3_requireOfficer ∈ WS := mws (tb2 73 rfl) rfl
theorem kst_X3_requireOfficer : Cond.static yX3_requireOfficer ∈ WS := mws (tb2 74 rfl) rfl
theorem kc_X3_requireOfficer : Cond.code yX3_requireOfficer cX3_requireOfficer 1 none ∈ WS := mws (tb2 75 rfl) rfl
theorem kcl_X3_108 : Cond.classLink RX3 108 "java/lang/UnsupportedOperationException" ∈ WS := mws (tb2 76 rfl) rfl
theorem kinst_UnsupportedOperationException : Cond.instantiable "java/lang/UnsupportedOperationException" 6 ∈ WS := mws (tb2 77 rfl) rfl
theorem ki_X1_shareSum : Cond.instanceMethod yX1_shareSum ∈ WS := mws (tb2 94 rfl) rfl
theorem kc_X1_shareSum : Cond.code yX1_shareSum cX1_shareSum 3 (some .int) ∈ WS := mws (tb2 95 rfl) rfl
theorem kl_L_97 : Cond.methodLink RL 97 yL_grant ∈ WS := mws (tb2 97 rfl) rfl
theorem kst_L_grant : Cond.static yL_grant ∈ WS := mws (tb2 98 rfl) rfl
theorem kc_L_grant : Cond.codeWith yL_grant cL_grant 7 (some .int) [(0, 21, 24, 13), (0, 21, 28, 27)] ∈ WS := mws (tb2 99 rfl) rfl
theorem kl_L_29 : Cond.methodLink RL 29 yX3_grant ∈ WS := mws (tb2 100 rfl) rfl
theorem ki_X3_grant : Cond.instanceMethod yX3_grant ∈ WS := mws (tb2 101 rfl) rfl
theorem kse_X3_grant : Cond.selects RX3 yX3_grant yX3_grant ∈ WS := mws (tb2 102 rfl) rfl
theorem kc_X3_grant : Cond.code yX3_grant cX3_grant 7 (some .boolean) ∈ WS := mws (tb2 103 rfl) rfl
theorem kl_L_103 : Cond.methodLink RL 103 yL_floor ∈ WS := mws (tb2 105 rfl) rfl
theorem kst_L_floor : Cond.static yL_floor ∈ WS := mws (tb2 106 rfl) rfl
theorem kc_L_floor : Cond.codeWith yL_floor cL_floor 7 (some .int) [(0, 11, 14, 13), (0, 11, 18, 27), (0, 11, 22, 15)] ∈ WS := mws (tb2 107 rfl) rfl
theorem kl_L_33 : Cond.methodLink RL 33 yX3_floor ∈ WS := mws (tb2 108 rfl) rfl
theorem ki_X3_floor : Cond.instanceMethod yX3_floor ∈ WS := mws (tb2 109 rfl) rfl
theorem kse_X3_floor : Cond.selects RX3 yX3_floor yX3_floor ∈ WS := mws (tb2 110 rfl) rfl
theorem kc_X3_floor : Cond.code yX3_floor cX3_floor 7 (some .long) ∈ WS := mws (tb2 111 rfl) rfl
theorem kl_X3_117 : Cond.methodLink RX3 117 yX3_isBeyondLimit ∈ WS := mws (tb2 112 rfl) rfl
theorem kst_X3_isBeyondLimit : Cond.static yX3_isBeyondLimit ∈ WS := mws (tb2 113 rfl) rfl
theorem kc_X3_isBeyondLimit : Cond.code yX3_isBeyondLimit cX3_isBeyondLimit 2 (some .boolean) ∈ WS := mws (tb2 114 rfl) rfl
theorem kcn_X3_249 : Cond.constantLong RX3 249 (1000000000000) ∈ WS := mws (tb2 115 rfl) rfl
theorem kl_L_107 : Cond.methodLink RL 107 yL_ask ∈ WS := mws (tb2 117 rfl) rfl
theorem kst_L_ask : Cond.static yL_ask ∈ WS := mws (tb2 118 rfl) rfl
theorem kc_L_ask : Cond.codeWith yL_ask cL_ask 7 (some .int) [(0, 12, 15, 13), (0, 12, 19, 27), (0, 12, 23, 15), (0, 12, 27, 17)] ∈ WS := mws (tb2 119 rfl) rfl
theorem kl_L_37 : Cond.methodLink RL 37 yX3_ask ∈ WS := mws (tb2 120 rfl) rfl
theorem ki_X3_ask : Cond.instanceMethod yX3_ask ∈ WS := mws (tb2 121 rfl) rfl
theorem kse_X3_ask : Cond.selects RX3 yX3_ask yX3_ask ∈ WS := mws (tb2 122 rfl) rfl
theorem kc_X3_ask : Cond.code yX3_ask cX3_ask 5 (some .int) ∈ WS := mws (tb2 123 rfl) rfl
theorem kl_X3_123 : Cond.methodLink RX3 123 yX3_requireMayRun ∈ WS := mws (tb2 124 rfl) rfl
theorem ki_X3_requireMayRun : Cond.instanceMethod yX3_requireMayRun ∈ WS := mws (tb2 126 rfl) rfl
theorem kc_X3_requireMayRun : Cond.code yX3_requireMayRun cX3_requireMayRun 3 none ∈ WS := mws (tb2 127 rfl) rfl
theorem kl_X3_212 : Cond.methodLink RX3 212 yX3_mayRun ∈ WS := mws (tb2 128 rfl) rfl
theorem kcn_X3_126 : Cond.constantLong RX3 126 (100000000000) ∈ WS := mws (tb2 130 rfl) rfl
theorem kl_X3_130 : Cond.methodLink RX3 130 yX3_requireBooksTakeRun ∈ WS := mws (tb2 132 rfl) rfl
theorem ki_X3_requireBooksTakeRun : Cond.instanceMethod yX3_requireBooksTakeRun ∈ WS := mws (tb2 134 rfl) rfl
theorem kc_X3_requireBooksTakeRun : Cond.code yX3_requireBooksTakeRun cX3_requireBooksTakeRun 1 none ∈ WS := mws (tb2 135 rfl) rfl
theorem kcn_X3_133 : Cond.constantLong RX3 133 (10000) ∈ WS := mws (tb2 138 rfl) rfl
theorem kl_X3_135 : Cond.methodLink RX3 135 yX3_fileRequest ∈ WS := mws (tb2 139 rfl) rfl
theorem ki_X3_fileRequest : Cond.instanceMethod yX3_fileRequest ∈ WS := mws (tb2 141 rfl) rfl
theorem kc_X3_fileRequest : Cond.code yX3_fileRequest cX3_fileRequest 6 (some .int) ∈ WS := mws (tb2 142 rfl) rfl
theorem ki_X2_isInUse : Cond.instanceMethod yX2_isInUse ∈ WS := mws (tb2 145 rfl) rfl
theorem kc_X2_isInUse : Cond.code yX2_isInUse cX2_isInUse 1 (some .boolean) ∈ WS := mws (tb2 146 rfl) rfl
theorem ki_X2_fill : Cond.instanceMethod yX2_fill ∈ WS := mws (tb2 149 rfl) rfl
theorem kc_X2_fill : Cond.code yX2_fill cX2_fill 5 none ∈ WS := mws (tb2 150 rfl) rfl
theorem kl_X3_139 : Cond.methodLink RX3 139 yX3_runAndLog ∈ WS := mws (tb2 152 rfl) rfl
theorem ki_X3_runAndLog : Cond.instanceMethod yX3_runAndLog ∈ WS := mws (tb2 154 rfl) rfl
theorem kc_X3_runAndLog : Cond.code yX3_runAndLog cX3_runAndLog 11 (some .int) ∈ WS := mws (tb2 155 rfl) rfl
theorem ki_X1_computePostings : Cond.instanceMethod yX1_computePostings ∈ WS := mws (tb2 158 rfl) rfl
theorem kc_X1_computePostings : Cond.code yX1_computePostings cX1_computePostings 7 none ∈ WS := mws (tb2 159 rfl) rfl
theorem kcn_X1_29 : Cond.constantLong RX1 29 (100) ∈ WS := mws (tb2 160 rfl) rfl
theorem kl_X3_229 : Cond.methodLink RX3 229 yX3_negatePostings ∈ WS := mws (tb2 161 rfl) rfl
theorem ki_X3_negatePostings : Cond.instanceMethod yX3_negatePostings ∈ WS := mws (tb2 163 rfl) rfl
theorem kc_X3_negatePostings : Cond.code yX3_negatePostings cX3_negatePostings 2 none ∈ WS := mws (tb2 164 rfl) rfl
theorem kl_X3_232 : Cond.methodLink RX3 232 yX3_requireNoLineFails ∈ WS := mws (tb2 165 rfl) rfl
theorem ki_X3_requireNoLineFails : Cond.instanceMethod yX3_requireNoLineFails ∈ WS := mws (tb2 167 rfl) rfl
theorem kc_X3_requireNoLineFails : Cond.code yX3_requireNoLineFails cX3_requireNoLineFails 8 none ∈ WS := mws (tb2 168 rfl) rfl
theorem kl_X3_236 : Cond.methodLink RX3 236 arraycopyName ∈ WS := mws (tb2 170 rfl) rfl
theorem kstatic_arraycopy : Cond.static arraycopyName ∈ WS := mws (tb2 171 rfl) rfl
theorem knative_arraycopy : Cond.native arraycopyName ∈ WS := mws (tb2 172 rfl) rfl
theorem ki_X0_fill : Cond.instanceMethod yX0_fill ∈ WS := mws (tb2 175 rfl) rfl
theorem kc_X0_fill : Cond.code yX0_fill cX0_fill 7 none ∈ WS := mws (tb2 176 rfl) rfl
theorem kl_L_110 : Cond.methodLink RL 110 yL_approve ∈ WS := mws (tb2 177 rfl) rfl
theorem kst_L_approve : Cond.static yL_approve ∈ WS := mws (tb2 178 rfl) rfl
theorem kc_L_approve : Cond.codeWith yL_approve cL_approve 5 (some .int) [(0, 10, 13, 13), (0, 10, 17, 27), (0, 10, 21, 17)] ∈ WS := mws (tb2 179 rfl) rfl
theorem kl_L_41 : Cond.methodLink RL 41 yX3_approve ∈ WS := mws (tb2 180 rfl) rfl
theorem ki_X3_approve : Cond.instanceMethod yX3_approve ∈ WS := mws (tb2 181 rfl) rfl
theorem kse_X3_approve : Cond.selects RX3 yX3_approve yX3_approve ∈ WS := mws (tb2 182 rfl) rfl
theorem kc_X3_approve : Cond.code yX3_approve cX3_approve 5 (some .int) ∈ WS := mws (tb2 183 rfl) rfl
theorem kl_X3_143 : Cond.methodLink RX3 143 yX3_requireRequest ∈ WS := mws (tb2 184 rfl) rfl
theorem ki_X3_requireRequest : Cond.instanceMethod yX3_requireRequest ∈ WS := mws (tb2 186 rfl) rfl
theorem kc_X3_requireRequest : Cond.code yX3_requireRequest cX3_requireRequest 2 none ∈ WS := mws (tb2 187 rfl) rfl
theorem kl_X3_146 : Cond.methodLink RX3 146 yX3_mayApprove ∈ WS := mws (tb2 189 rfl) rfl
theorem ki_X3_mayApprove : Cond.instanceMethod yX3_mayApprove ∈ WS := mws (tb2 191 rfl) rfl
theorem kc_X3_mayApprove : Cond.code yX3_mayApprove cX3_mayApprove 3 (some .boolean) ∈ WS := mws (tb2 192 rfl) rfl
theorem ki_X2_clear : Cond.instanceMethod yX2_clear ∈ WS := mws (tb2 196 rfl) rfl
theorem kc_X2_clear : Cond.code yX2_clear cX2_clear 1 none ∈ WS := mws (tb2 197 rfl) rfl
theorem kl_L_113 : Cond.methodLink RL 113 yL_withdraw ∈ WS := mws (tb2 198 rfl) rfl
theorem kst_L_withdraw : Cond.static yL_withdraw ∈ WS := mws (tb2 199 rfl) rfl
theorem kc_L_withdraw : Cond.codeWith yL_withdraw cL_withdraw 4 (some .int) [(0, 6, 9, 13), (0, 6, 12, 27)] ∈ WS := mws (tb2 200 rfl) rfl
theorem kl_L_44 : Cond.methodLink RL 44 yX3_withdraw ∈ WS := mws (tb2 201 rfl) rfl
theorem ki_X3_withdraw : Cond.instanceMethod yX3_withdraw ∈ WS := mws (tb2 202 rfl) rfl
theorem kse_X3_withdraw : Cond.selects RX3 yX3_withdraw yX3_withdraw ∈ WS := mws (tb2 203 rfl) rfl
theorem kc_X3_withdraw : Cond.code yX3_withdraw cX3_withdraw 4 none ∈ WS := mws (tb2 204 rfl) rfl
theorem kl_L_116 : Cond.methodLink RL 116 yL_reverse ∈ WS := mws (tb2 206 rfl) rfl
theorem kst_L_reverse : Cond.static yL_reverse ∈ WS := mws (tb2 207 rfl) rfl
theorem kc_L_reverse : Cond.codeWith yL_reverse cL_reverse 5 (some .int) [(0, 10, 13, 13), (0, 10, 17, 27), (0, 10, 21, 17)] ∈ WS := mws (tb2 208 rfl) rfl
theorem kl_L_47 : Cond.methodLink RL 47 yX3_reverse ∈ WS := mws (tb2 209 rfl) rfl
theorem ki_X3_reverse : Cond.instanceMethod yX3_reverse ∈ WS := mws (tb2 210 rfl) rfl
theorem kse_X3_reverse : Cond.selects RX3 yX3_reverse yX3_reverse ∈ WS := mws (tb2 211 rfl) rfl
theorem kc_X3_reverse : Cond.code yX3_reverse cX3_reverse 5 (some .int) ∈ WS := mws (tb2 212 rfl) rfl
theorem kl_X3_167 : Cond.methodLink RX3 167 yX3_requireEntry ∈ WS := mws (tb2 213 rfl) rfl
theorem ki_X3_requireEntry : Cond.instanceMethod yX3_requireEntry ∈ WS := mws (tb2 215 rfl) rfl
theorem kc_X3_requireEntry : Cond.code yX3_requireEntry cX3_requireEntry 2 none ∈ WS := mws (tb2 216 rfl) rfl
theorem kl_L_119 : Cond.methodLink RL 119 yL_tamper ∈ WS := mws (tb2 220 rfl) rfl
theorem kst_L_tamper : Cond.static yL_tamper ∈ WS := mws (tb2 221 rfl) rfl
theorem kc_L_tamper : Cond.codeWith yL_tamper cL_tamper 6 (some .int) [(0, 10, 13, 13), (0, 10, 17, 15), (0, 10, 21, 17)] ∈ WS := mws (tb2 222 rfl) rfl
theorem kl_L_50 : Cond.methodLink RL 50 yX3_tamper ∈ WS := mws (tb2 223 rfl) rfl
theorem ki_X3_tamper : Cond.instanceMethod yX3_tamper ∈ WS := mws (tb2 224 rfl) rfl
theorem kse_X3_tamper : Cond.selects RX3 yX3_tamper yX3_tamper ∈ WS := mws (tb2 225 rfl) rfl
theorem kc_X3_tamper : Cond.code yX3_tamper cX3_tamper 6 (some .long) ∈ WS := mws (tb2 226 rfl) rfl
theorem kcn_X3_183 : Cond.constantLong RX3 183 (-1000000) ∈ WS := mws (tb2 227 rfl) rfl
theorem kcn_X3_185 : Cond.constantLong RX3 185 (1000000) ∈ WS := mws (tb2 228 rfl) rfl
theorem kl_L_128 : Cond.methodLink RL 128 yL_restore ∈ WS := mws (tb2 231 rfl) rfl
theorem kst_L_restore : Cond.static yL_restore ∈ WS := mws (tb2 232 rfl) rfl
theorem kc_L_restore : Cond.codeWith yL_restore cL_restore 4 (some .int) [(0, 9, 12, 13), (0, 9, 15, 27)] ∈ WS := mws (tb2 233 rfl) rfl
theorem kl_L_54 : Cond.methodLink RL 54 yX3_restore ∈ WS := mws (tb2 234 rfl) rfl
theorem ki_X3_restore : Cond.instanceMethod yX3_restore ∈ WS := mws (tb2 235 rfl) rfl
theorem kse_X3_restore : Cond.selects RX3 yX3_restore yX3_restore ∈ WS := mws (tb2 236 rfl) rfl
theorem kc_X3_restore : Cond.code yX3_restore cX3_restore 4 (some .int) ∈ WS := mws (tb2 237 rfl) rfl
theorem kl_L_132 : Cond.methodLink RL 132 yL_balance ∈ WS := mws (tb2 238 rfl) rfl
theorem kst_L_balance : Cond.static yL_balance ∈ WS := mws (tb2 239 rfl) rfl
theorem kc_L_balance : Cond.codeWith yL_balance cL_balance 4 (some .int) [(0, 8, 11, 13)] ∈ WS := mws (tb3 0 rfl) rfl
theorem kl_L_58 : Cond.methodLink RL 58 yX3_balance ∈ WS := mws (tb3 1 rfl) rfl
theorem ki_X3_balance : Cond.instanceMethod yX3_balance ∈ WS := mws (tb3 2 rfl) rfl
theorem kse_X3_balance : Cond.selects RX3 yX3_balance yX3_balance ∈ WS := mws (tb3 3 rfl) rfl
theorem kc_X3_balance : Cond.code yX3_balance cX3_balance 2 (some .long) ∈ WS := mws (tb3 4 rfl) rfl
theorem kl_L_135 : Cond.methodLink RL 135 yL_balanceAt ∈ WS := mws (tb3 5 rfl) rfl
theorem kst_L_balanceAt : Cond.static yL_balanceAt ∈ WS := mws (tb3 6 rfl) rfl
theorem kc_L_balanceAt : Cond.codeWith yL_balanceAt cL_balanceAt 5 (some .int) [(0, 9, 12, 13)] ∈ WS := mws (tb3 7 rfl) rfl
theorem kl_L_62 : Cond.methodLink RL 62 yX3_balanceAt ∈ WS := mws (tb3 8 rfl) rfl
theorem ki_X3_balanceAt : Cond.instanceMethod yX3_balanceAt ∈ WS := mws (tb3 9 rfl) rfl
theorem kse_X3_balanceAt : Cond.selects RX3 yX3_balanceAt yX3_balanceAt ∈ WS := mws (tb3 10 rfl) rfl
theorem kc_X3_balanceAt : Cond.code yX3_balanceAt cX3_balanceAt 3 (some .long) ∈ WS := mws (tb3 11 rfl) rfl
theorem kl_L_142 : Cond.methodLink RL 142 yL_entry ∈ WS := mws (tb3 13 rfl) rfl
theorem kst_L_entry : Cond.static yL_entry ∈ WS := mws (tb3 14 rfl) rfl
theorem kc_L_entry : Cond.codeWith yL_entry cL_entry 5 (some .int) [(0, 10, 13, 13)] ∈ WS := mws (tb3 15 rfl) rfl
theorem kl_L_66 : Cond.methodLink RL 66 yX3_entry ∈ WS := mws (tb3 16 rfl) rfl
theorem ki_X3_entry : Cond.instanceMethod yX3_entry ∈ WS := mws (tb3 17 rfl) rfl
theorem kse_X3_entry : Cond.selects RX3 yX3_entry yX3_entry ∈ WS := mws (tb3 18 rfl) rfl
theorem kc_X3_entry : Cond.code yX3_entry cX3_entry 4 (some .int) ∈ WS := mws (tb3 19 rfl) rfl
theorem kl_L_145 : Cond.methodLink RL 145 yL_amount ∈ WS := mws (tb3 21 rfl) rfl
theorem kst_L_amount : Cond.static yL_amount ∈ WS := mws (tb3 22 rfl) rfl
theorem kc_L_amount : Cond.codeWith yL_amount cL_amount 4 (some .int) [(0, 8, 11, 13)] ∈ WS := mws (tb3 23 rfl) rfl
theorem kl_L_69 : Cond.methodLink RL 69 yX3_amount ∈ WS := mws (tb3 24 rfl) rfl
theorem ki_X3_amount : Cond.instanceMethod yX3_amount ∈ WS := mws (tb3 25 rfl) rfl
theorem kse_X3_amount : Cond.selects RX3 yX3_amount yX3_amount ∈ WS := mws (tb3 26 rfl) rfl
theorem kc_X3_amount : Cond.code yX3_amount cX3_amount 2 (some .long) ∈ WS := mws (tb3 27 rfl) rfl
theorem kl_L_148 : Cond.methodLink RL 148 yL_requested ∈ WS := mws (tb3 28 rfl) rfl
theorem kst_L_requested : Cond.static yL_requested ∈ WS := mws (tb3 29 rfl) rfl
theorem kc_L_requested : Cond.codeWith yL_requested cL_requested 4 (some .int) [(0, 9, 12, 13)] ∈ WS := mws (tb3 30 rfl) rfl
theorem kl_L_72 : Cond.methodLink RL 72 yX3_requested ∈ WS := mws (tb3 31 rfl) rfl
theorem ki_X3_requested : Cond.instanceMethod yX3_requested ∈ WS := mws (tb3 32 rfl) rfl
theorem kse_X3_requested : Cond.selects RX3 yX3_requested yX3_requested ∈ WS := mws (tb3 33 rfl) rfl
theorem kc_X3_requested : Cond.code yX3_requested cX3_requested 2 (some .int) ∈ WS := mws (tb3 34 rfl) rfl
theorem kcl_L_76 : Cond.classLink RL 76 RX4 ∈ WS := mws (tb3 36 rfl) rfl
theorem kinst_X4 : Cond.instantiable RX4 20 ∈ WS := mws (tb3 37 rfl) rfl
theorem kl_L_78 : Cond.methodLink RL 78 yX4_init ∈ WS := mws (tb3 38 rfl) rfl
theorem ki_X4_init : Cond.instanceMethod yX4_init ∈ WS := mws (tb3 39 rfl) rfl
theorem kc_X4_init : Cond.code yX4_init cX4_init 2 none ∈ WS := mws (tb3 40 rfl) rfl
theorem kl_X4_1 : Cond.methodLink RX4 1 objectInit ∈ WS := mws (tb3 41 rfl) rfl
theorem kcn_X4_63 : Cond.constantLong RX4 63 (-1000000000000) ∈ WS := mws (tb3 42 rfl) rfl
theorem kf_X4_65 : Cond.fieldLink RX4 65 "CertifiedBooksModel" "thrown" "I" ∈ WS := mws (tb3 43 rfl) rfl
theorem kf_X4_7 : Cond.fieldLink RX4 7 "CertifiedBooksModel" "balances" "[J" ∈ WS := mws (tb3 44 rfl) rfl
theorem kf_X4_13 : Cond.fieldLink RX4 13 "CertifiedBooksModel" "floors" "[J" ∈ WS := mws (tb3 45 rfl) rfl
theorem kf_X4_69 : Cond.fieldLink RX4 69 "CertifiedBooksModel" "procedures" "I" ∈ WS := mws (tb3 46 rfl) rfl
theorem kf_X4_16 : Cond.fieldLink RX4 16 "CertifiedBooksModel" "lines" "[I" ∈ WS := mws (tb3 47 rfl) rfl
theorem kf_X4_20 : Cond.fieldLink RX4 20 "CertifiedBooksModel" "certifier" "[I" ∈ WS := mws (tb3 48 rfl) rfl
theorem kf_X4_23 : Cond.fieldLink RX4 23 "CertifiedBooksModel" "accounts" "[I" ∈ WS := mws (tb3 49 rfl) rfl
theorem kf_X4_26 : Cond.fieldLink RX4 26 "CertifiedBooksModel" "shares" "[I" ∈ WS := mws (tb3 50 rfl) rfl
theorem kf_X4_29 : Cond.fieldLink RX4 29 "CertifiedBooksModel" "granted" "[Z" ∈ WS := mws (tb3 51 rfl) rfl
theorem kf_X4_104 : Cond.fieldLink RX4 104 "CertifiedBooksModel" "entries" "I" ∈ WS := mws (tb3 52 rfl) rfl
theorem kf_X4_33 : Cond.fieldLink RX4 33 "CertifiedBooksModel" "ran" "[I" ∈ WS := mws (tb3 53 rfl) rfl
theorem kf_X4_36 : Cond.fieldLink RX4 36 "CertifiedBooksModel" "amounts" "[J" ∈ WS := mws (tb3 54 rfl) rfl
theorem kf_X4_39 : Cond.fieldLink RX4 39 "CertifiedBooksModel" "asker" "[I" ∈ WS := mws (tb3 55 rfl) rfl
theorem kf_X4_42 : Cond.fieldLink RX4 42 "CertifiedBooksModel" "approver" "[I" ∈ WS := mws (tb3 56 rfl) rfl
theorem kf_X4_45 : Cond.fieldLink RX4 45 "CertifiedBooksModel" "reversalOf" "[I" ∈ WS := mws (tb3 57 rfl) rfl
theorem kf_X4_48 : Cond.fieldLink RX4 48 "CertifiedBooksModel" "reversedBy" "[I" ∈ WS := mws (tb3 58 rfl) rfl
theorem kf_X4_51 : Cond.fieldLink RX4 51 "CertifiedBooksModel" "who" "[I" ∈ WS := mws (tb3 59 rfl) rfl
theorem kf_X4_54 : Cond.fieldLink RX4 54 "CertifiedBooksModel" "wanted" "[I" ∈ WS := mws (tb3 60 rfl) rfl
theorem kf_X4_57 : Cond.fieldLink RX4 57 "CertifiedBooksModel" "sums" "[J" ∈ WS := mws (tb3 61 rfl) rfl
theorem kf_X4_60 : Cond.fieldLink RX4 60 "CertifiedBooksModel" "posts" "[J" ∈ WS := mws (tb3 62 rfl) rfl
theorem kl_L_85 : Cond.methodLink RL 85 yX4_thrown ∈ WS := mws (tb3 104 rfl) rfl
theorem ki_X4_thrown : Cond.instanceMethod yX4_thrown ∈ WS := mws (tb3 105 rfl) rfl
theorem kse_X4_thrown : Cond.selects RX4 yX4_thrown yX4_thrown ∈ WS := mws (tb3 106 rfl) rfl
theorem kc_X4_thrown : Cond.code yX4_thrown cX4_thrown 1 (some .int) ∈ WS := mws (tb3 107 rfl) rfl
theorem kl_L_84 : Cond.methodLink RL 84 yX4_draw ∈ WS := mws (tb3 108 rfl) rfl
theorem ki_X4_draw : Cond.instanceMethod yX4_draw ∈ WS := mws (tb3 109 rfl) rfl
theorem kse_X4_draw : Cond.selects RX4 yX4_draw yX4_draw ∈ WS := mws (tb3 110 rfl) rfl
theorem kc_X4_draw : Cond.code yX4_draw cX4_draw 4 (some .int) ∈ WS := mws (tb3 111 rfl) rfl
theorem kl_X4_72 : Cond.methodLink RX4 72 yX4_isOne ∈ WS := mws (tb3 112 rfl) rfl
theorem kst_X4_isOne : Cond.static yX4_isOne ∈ WS := mws (tb3 113 rfl) rfl
theorem kc_X4_isOne : Cond.code yX4_isOne cX4_isOne 1 (some .boolean) ∈ WS := mws (tb3 114 rfl) rfl
theorem kl_X4_76 : Cond.methodLink RX4 76 yX4_isShare ∈ WS := mws (tb3 115 rfl) rfl
theorem kst_X4_isShare : Cond.static yX4_isShare ∈ WS := mws (tb3 116 rfl) rfl
theorem kc_X4_isShare : Cond.code yX4_isShare cX4_isShare 1 (some .boolean) ∈ WS := mws (tb3 117 rfl) rfl
theorem kl_L_92 : Cond.methodLink RL 92 yX4_add ∈ WS := mws (tb3 118 rfl) rfl
theorem ki_X4_add : Cond.instanceMethod yX4_add ∈ WS := mws (tb3 119 rfl) rfl
theorem kse_X4_add : Cond.selects RX4 yX4_add yX4_add ∈ WS := mws (tb3 120 rfl) rfl
theorem kc_X4_add : Cond.code yX4_add cX4_add 4 (some .int) ∈ WS := mws (tb3 121 rfl) rfl
theorem kl_X4_79 : Cond.methodLink RX4 79 yX4_isProcedure ∈ WS := mws (tb3 122 rfl) rfl
theorem ki_X4_isProcedure : Cond.instanceMethod yX4_isProcedure ∈ WS := mws (tb3 124 rfl) rfl
theorem kc_X4_isProcedure : Cond.code yX4_isProcedure cX4_isProcedure 2 (some .boolean) ∈ WS := mws (tb3 125 rfl) rfl
theorem kl_X4_82 : Cond.methodLink RX4 82 yX4_hasLine ∈ WS := mws (tb3 126 rfl) rfl
theorem ki_X4_hasLine : Cond.instanceMethod yX4_hasLine ∈ WS := mws (tb3 128 rfl) rfl
theorem kc_X4_hasLine : Cond.code yX4_hasLine cX4_hasLine 5 (some .boolean) ∈ WS := mws (tb3 129 rfl) rfl
theorem kl_L_96 : Cond.methodLink RL 96 yX4_certify ∈ WS := mws (tb3 130 rfl) rfl
theorem ki_X4_certify : Cond.instanceMethod yX4_certify ∈ WS := mws (tb3 131 rfl) rfl
theorem kse_X4_certify : Cond.selects RX4 yX4_certify yX4_certify ∈ WS := mws (tb3 132 rfl) rfl
theorem kc_X4_certify : Cond.code yX4_certify cX4_certify 3 none ∈ WS := mws (tb3 133 rfl) rfl
theorem kl_X4_86 : Cond.methodLink RX4 86 yX4_isOfficer ∈ WS := mws (tb3 134 rfl) rfl
theorem kst_X4_isOfficer : Cond.static yX4_isOfficer ∈ WS := mws (tb3 135 rfl) rfl
theorem kc_X4_isOfficer : Cond.code yX4_isOfficer cX4_isOfficer 1 (some .boolean) ∈ WS := mws (tb3 136 rfl) rfl
theorem kl_X4_89 : Cond.methodLink RX4 89 yX4_allShares ∈ WS := mws (tb3 137 rfl) rfl
theorem ki_X4_allShares : Cond.instanceMethod yX4_allShares ∈ WS := mws (tb3 139 rfl) rfl
theorem kc_X4_allShares : Cond.code yX4_allShares cX4_allShares 4 (some .int) ∈ WS := mws (tb3 140 rfl) rfl
theorem kl_L_100 : Cond.methodLink RL 100 yX4_grant ∈ WS := mws (tb3 141 rfl) rfl
theorem ki_X4_grant : Cond.instanceMethod yX4_grant ∈ WS := mws (tb3 142 rfl) rfl
theorem kse_X4_grant : Cond.selects RX4 yX4_grant yX4_grant ∈ WS := mws (tb3 143 rfl) rfl
theorem kc_X4_grant : Cond.code yX4_grant cX4_grant 6 (some .boolean) ∈ WS := mws (tb3 144 rfl) rfl
theorem kl_L_155 : Cond.methodLink RL 155 yX4_mayRun ∈ WS := mws (tb3 145 rfl) rfl
theorem ki_X4_mayRun : Cond.instanceMethod yX4_mayRun ∈ WS := mws (tb3 146 rfl) rfl
theorem kse_X4_mayRun : Cond.selects RX4 yX4_mayRun yX4_mayRun ∈ WS := mws (tb3 147 rfl) rfl
theorem kc_X4_mayRun : Cond.code yX4_mayRun cX4_mayRun 3 (some .boolean) ∈ WS := mws (tb3 148 rfl) rfl
theorem kl_X4_93 : Cond.methodLink RX4 93 yX4_may ∈ WS := mws (tb3 149 rfl) rfl
theorem ki_X4_may : Cond.instanceMethod yX4_may ∈ WS := mws (tb3 151 rfl) rfl
theorem kc_X4_may : Cond.code yX4_may cX4_may 3 (some .boolean) ∈ WS := mws (tb3 152 rfl) rfl
theorem kl_L_106 : Cond.methodLink RL 106 yX4_floor ∈ WS := mws (tb3 153 rfl) rfl
theorem ki_X4_floor : Cond.instanceMethod yX4_floor ∈ WS := mws (tb3 154 rfl) rfl
theorem kse_X4_floor : Cond.selects RX4 yX4_floor yX4_floor ∈ WS := mws (tb3 155 rfl) rfl
theorem kc_X4_floor : Cond.code yX4_floor cX4_floor 7 (some .long) ∈ WS := mws (tb3 156 rfl) rfl
theorem kcn_X4_96 : Cond.constantLong RX4 96 (1000000000000) ∈ WS := mws (tb3 157 rfl) rfl
theorem kl_L_127 : Cond.methodLink RL 127 yX4_sound ∈ WS := mws (tb3 158 rfl) rfl
theorem ki_X4_sound : Cond.instanceMethod yX4_sound ∈ WS := mws (tb3 159 rfl) rfl
theorem kse_X4_sound : Cond.selects RX4 yX4_sound yX4_sound ∈ WS := mws (tb3 160 rfl) rfl
theorem kc_X4_sound : Cond.code yX4_sound cX4_sound 1 (some .boolean) ∈ WS := mws (tb3 161 rfl) rfl
theorem kl_X4_111 : Cond.methodLink RX4 111 yX4_isSound ∈ WS := mws (tb3 162 rfl) rfl
theorem ki_X4_isSound : Cond.instanceMethod yX4_isSound ∈ WS := mws (tb3 164 rfl) rfl
theorem kc_X4_isSound : Cond.code yX4_isSound cX4_isSound 3 (some .boolean) ∈ WS := mws (tb3 165 rfl) rfl
theorem kl_X4_107 : Cond.methodLink RX4 107 yX4_logged ∈ WS := mws (tb3 166 rfl) rfl
theorem ki_X4_logged : Cond.instanceMethod yX4_logged ∈ WS := mws (tb3 168 rfl) rfl
theorem kc_X4_logged : Cond.code yX4_logged cX4_logged 9 (some .long) ∈ WS := mws (tb3 169 rfl) rfl
theorem kl_X4_100 : Cond.methodLink RX4 100 yX4_findPosts ∈ WS := mws (tb3 170 rfl) rfl
theorem ki_X4_findPosts : Cond.instanceMethod yX4_findPosts ∈ WS := mws (tb3 172 rfl) rfl
theorem kc_X4_findPosts : Cond.code yX4_findPosts cX4_findPosts 7 none ∈ WS := mws (tb3 173 rfl) rfl
theorem kcn_X4_98 : Cond.constantLong RX4 98 (100) ∈ WS := mws (tb3 174 rfl) rfl
theorem kl_L_109 : Cond.methodLink RL 109 yX4_ask ∈ WS := mws (tb3 175 rfl) rfl
theorem ki_X4_ask : Cond.instanceMethod yX4_ask ∈ WS := mws (tb3 176 rfl) rfl
theorem kse_X4_ask : Cond.selects RX4 yX4_ask yX4_ask ∈ WS := mws (tb3 177 rfl) rfl
theorem kc_X4_ask : Cond.code yX4_ask cX4_ask 6 (some .int) ∈ WS := mws (tb3 178 rfl) rfl
theorem kcn_X4_125 : Cond.constantLong RX4 125 (100000000000) ∈ WS := mws (tb3 179 rfl) rfl
theorem kcn_X4_127 : Cond.constantLong RX4 127 (10000) ∈ WS := mws (tb3 180 rfl) rfl
theorem kl_X4_129 : Cond.methodLink RX4 129 yX4_request ∈ WS := mws (tb3 181 rfl) rfl
theorem ki_X4_request : Cond.instanceMethod yX4_request ∈ WS := mws (tb3 183 rfl) rfl
theorem kc_X4_request : Cond.code yX4_request cX4_request 6 (some .int) ∈ WS := mws (tb3 184 rfl) rfl
theorem kl_X4_121 : Cond.methodLink RX4 121 yX4_freeRequest ∈ WS := mws (tb3 185 rfl) rfl
theorem ki_X4_freeRequest : Cond.instanceMethod yX4_freeRequest ∈ WS := mws (tb3 187 rfl) rfl
theorem kc_X4_freeRequest : Cond.code yX4_freeRequest cX4_freeRequest 3 (some .int) ∈ WS := mws (tb3 188 rfl) rfl
theorem kl_X4_133 : Cond.methodLink RX4 133 yX4_enter ∈ WS := mws (tb3 189 rfl) rfl
theorem ki_X4_enter : Cond.instanceMethod yX4_enter ∈ WS := mws (tb3 191 rfl) rfl
theorem kc_X4_enter : Cond.code yX4_enter cX4_enter 7 (some .int) ∈ WS := mws (tb3 192 rfl) rfl
theorem kcn_X4_115 : Cond.constantLong RX4 115 (-1) ∈ WS := mws (tb3 193 rfl) rfl
theorem kl_X4_117 : Cond.methodLink RX4 117 yX4_run ∈ WS := mws (tb3 194 rfl) rfl
theorem ki_X4_run : Cond.instanceMethod yX4_run ∈ WS := mws (tb3 196 rfl) rfl
theorem kc_X4_run : Cond.code yX4_run cX4_run 11 (some .boolean) ∈ WS := mws (tb3 197 rfl) rfl
theorem kl_L_112 : Cond.methodLink RL 112 yX4_approve ∈ WS := mws (tb3 198 rfl) rfl
theorem ki_X4_approve : Cond.instanceMethod yX4_approve ∈ WS := mws (tb3 199 rfl) rfl
theorem kse_X4_approve : Cond.selects RX4 yX4_approve yX4_approve ∈ WS := mws (tb3 200 rfl) rfl
theorem kc_X4_approve : Cond.code yX4_approve cX4_approve 4 (some .int) ∈ WS := mws (tb3 201 rfl) rfl
theorem kl_X4_137 : Cond.methodLink RX4 137 yX4_isRequest ∈ WS := mws (tb3 202 rfl) rfl
theorem ki_X4_isRequest : Cond.instanceMethod yX4_isRequest ∈ WS := mws (tb3 204 rfl) rfl
theorem kc_X4_isRequest : Cond.code yX4_isRequest cX4_isRequest 2 (some .boolean) ∈ WS := mws (tb3 205 rfl) rfl
theorem kl_X4_140 : Cond.methodLink RX4 140 yX4_mayApprove ∈ WS := mws (tb3 206 rfl) rfl
theorem ki_X4_mayApprove : Cond.instanceMethod yX4_mayApprove ∈ WS := mws (tb3 208 rfl) rfl
theorem kc_X4_mayApprove : Cond.code yX4_mayApprove cX4_mayApprove 3 (some .boolean) ∈ WS := mws (tb3 209 rfl) rfl
theorem kl_L_115 : Cond.methodLink RL 115 yX4_withdraw ∈ WS := mws (tb3 210 rfl) rfl
theorem ki_X4_withdraw : Cond.instanceMethod yX4_withdraw ∈ WS := mws (tb3 211 rfl) rfl
theorem kse_X4_withdraw : Cond.selects RX4 yX4_withdraw yX4_withdraw ∈ WS := mws (tb3 212 rfl) rfl
theorem kc_X4_withdraw : Cond.code yX4_withdraw cX4_withdraw 3 none ∈ WS := mws (tb3 213 rfl) rfl
theorem kl_L_118 : Cond.methodLink RL 118 yX4_reverse ∈ WS := mws (tb3 214 rfl) rfl
theorem ki_X4_reverse : Cond.instanceMethod yX4_reverse ∈ WS := mws (tb3 215 rfl) rfl
theorem kse_X4_reverse : Cond.selects RX4 yX4_reverse yX4_reverse ∈ WS := mws (tb3 216 rfl) rfl
theorem kc_X4_reverse : Cond.code yX4_reverse cX4_reverse 4 (some .int) ∈ WS := mws (tb3 217 rfl) rfl
theorem kl_X4_143 : Cond.methodLink RX4 143 yX4_isEntry ∈ WS := mws (tb3 218 rfl) rfl
theorem ki_X4_isEntry : Cond.instanceMethod yX4_isEntry ∈ WS := mws (tb3 220 rfl) rfl
theorem kc_X4_isEntry : Cond.code yX4_isEntry cX4_isEntry 2 (some .boolean) ∈ WS := mws (tb3 221 rfl) rfl
theorem kl_L_122 : Cond.methodLink RL 122 yX4_tamper ∈ WS := mws (tb3 222 rfl) rfl
theorem ki_X4_tamper : Cond.instanceMethod yX4_tamper ∈ WS := mws (tb3 223 rfl) rfl
theorem kse_X4_tamper : Cond.selects RX4 yX4_tamper yX4_tamper ∈ WS := mws (tb3 224 rfl) rfl
theorem kc_X4_tamper : Cond.code yX4_tamper cX4_tamper 4 (some .long) ∈ WS := mws (tb3 225 rfl) rfl
theorem kcn_X4_146 : Cond.constantLong RX4 146 (-1000000) ∈ WS := mws (tb3 226 rfl) rfl
theorem kcn_X4_148 : Cond.constantLong RX4 148 (1000000) ∈ WS := mws (tb3 227 rfl) rfl
theorem kl_L_131 : Cond.methodLink RL 131 yX4_restore ∈ WS := mws (tb3 228 rfl) rfl
theorem ki_X4_restore : Cond.instanceMethod yX4_restore ∈ WS := mws (tb3 229 rfl) rfl
theorem kse_X4_restore : Cond.selects RX4 yX4_restore yX4_restore ∈ WS := mws (tb3 230 rfl) rfl
theorem kc_X4_restore : Cond.code yX4_restore cX4_restore 6 (some .int) ∈ WS := mws (tb3 231 rfl) rfl
theorem kl_L_134 : Cond.methodLink RL 134 yX4_balance ∈ WS := mws (tb3 232 rfl) rfl
theorem ki_X4_balance : Cond.instanceMethod yX4_balance ∈ WS := mws (tb3 233 rfl) rfl
theorem kse_X4_balance : Cond.selects RX4 yX4_balance yX4_balance ∈ WS := mws (tb3 234 rfl) rfl
theorem kc_X4_balance : Cond.code yX4_balance cX4_balance 2 (some .long) ∈ WS := mws (tb3 235 rfl) rfl
theorem kl_L_137 : Cond.methodLink RL 137 yX4_balanceAt ∈ WS := mws (tb3 236 rfl) rfl
theorem ki_X4_balanceAt : Cond.instanceMethod yX4_balanceAt ∈ WS := mws (tb3 237 rfl) rfl
theorem kse_X4_balanceAt : Cond.selects RX4 yX4_balanceAt yX4_balanceAt ∈ WS := mws (tb3 238 rfl) rfl
theorem kc_X4_balanceAt : Cond.code yX4_balanceAt cX4_balanceAt 3 (some .long) ∈ WS := mws (tb3 239 rfl) rfl
theorem kl_L_141 : Cond.methodLink RL 141 yX4_entries ∈ WS := mws (tb4 0 rfl) rfl
theorem ki_X4_entries : Cond.instanceMethod yX4_entries ∈ WS := mws (tb4 1 rfl) rfl
theorem kse_X4_entries : Cond.selects RX4 yX4_entries yX4_entries ∈ WS := mws (tb4 2 rfl) rfl
theorem kc_X4_entries : Cond.code yX4_entries cX4_entries 1 (some .int) ∈ WS := mws (tb4 3 rfl) rfl
theorem kl_L_144 : Cond.methodLink RL 144 yX4_entry ∈ WS := mws (tb4 4 rfl) rfl
theorem ki_X4_entry : Cond.instanceMethod yX4_entry ∈ WS := mws (tb4 5 rfl) rfl
theorem kse_X4_entry : Cond.selects RX4 yX4_entry yX4_entry ∈ WS := mws (tb4 6 rfl) rfl
theorem kc_X4_entry : Cond.code yX4_entry cX4_entry 3 (some .int) ∈ WS := mws (tb4 7 rfl) rfl
theorem kl_L_147 : Cond.methodLink RL 147 yX4_amount ∈ WS := mws (tb4 8 rfl) rfl
theorem ki_X4_amount : Cond.instanceMethod yX4_amount ∈ WS := mws (tb4 9 rfl) rfl
theorem kse_X4_amount : Cond.selects RX4 yX4_amount yX4_amount ∈ WS := mws (tb4 10 rfl) rfl
theorem kc_X4_amount : Cond.code yX4_amount cX4_amount 2 (some .long) ∈ WS := mws (tb4 11 rfl) rfl
theorem kl_L_150 : Cond.methodLink RL 150 yX4_requested ∈ WS := mws (tb4 12 rfl) rfl
theorem ki_X4_requested : Cond.instanceMethod yX4_requested ∈ WS := mws (tb4 13 rfl) rfl
theorem kse_X4_requested : Cond.selects RX4 yX4_requested yX4_requested ∈ WS := mws (tb4 14 rfl) rfl
theorem kc_X4_requested : Cond.code yX4_requested cX4_requested 2 (some .int) ∈ WS := mws (tb4 15 rfl) rfl
theorem kcn_L_101 : Cond.constantLong RL 101 (4294967295) ∈ WS := mws (tb4 16 rfl) rfl
theorem kse_X3_countUnsoundBalances : Cond.selects RX3 yX3_countUnsoundBalances yX3_countUnsoundBalances ∈ WS := mws (tp1 (q := (yX3_countUnsoundBalances, 9)) 0 rfl) rfl
theorem kse_X3_isProcedure : Cond.selects RX3 yX3_isProcedure yX3_isProcedure ∈ WS := mws (tp1 (q := (yX3_isProcedure, 9)) 1 rfl) rfl
theorem kse_X1_isCertified : Cond.selects RX1 yX1_isCertified yX1_isCertified ∈ WS := mws (tp1 (q := (yX1_isCertified, 5)) 2 rfl) rfl
theorem kse_X1_appendLine : Cond.selects RX1 yX1_appendLine yX1_appendLine ∈ WS := mws (tp1 (q := (yX1_appendLine, 5)) 4 rfl) rfl
theorem kse_X3_requireProcedure : Cond.selects RX3 yX3_requireProcedure yX3_requireProcedure ∈ WS := mws (tp1 (q := (yX3_requireProcedure, 9)) 5 rfl) rfl
theorem kse_X1_hasLineFor : Cond.selects RX1 yX1_hasLineFor yX1_hasLineFor ∈ WS := mws (tp1 (q := (yX1_hasLineFor, 5)) 6 rfl) rfl
theorem kse_X1_shareSum : Cond.selects RX1 yX1_shareSum yX1_shareSum ∈ WS := mws (tp1 (q := (yX1_shareSum, 5)) 7 rfl) rfl
theorem kse_X3_requireMayRun : Cond.selects RX3 yX3_requireMayRun yX3_requireMayRun ∈ WS := mws (tp1 (q := (yX3_requireMayRun, 9)) 8 rfl) rfl
theorem kse_X3_requireBooksTakeRun : Cond.selects RX3 yX3_requireBooksTakeRun yX3_requireBooksTakeRun ∈ WS := mws (tp1 (q := (yX3_requireBooksTakeRun, 9)) 9 rfl) rfl
theorem kse_X3_fileRequest : Cond.selects RX3 yX3_fileRequest yX3_fileRequest ∈ WS := mws (tp1 (q := (yX3_fileRequest, 9)) 10 rfl) rfl
theorem kse_X2_isInUse : Cond.selects RX2 yX2_isInUse yX2_isInUse ∈ WS := mws (tp1 (q := (yX2_isInUse, 3)) 11 rfl) rfl
theorem kse_X2_fill : Cond.selects RX2 yX2_fill yX2_fill ∈ WS := mws (tp1 (q := (yX2_fill, 3)) 12 rfl) rfl
theorem kse_X3_runAndLog : Cond.selects RX3 yX3_runAndLog yX3_runAndLog ∈ WS := mws (tp1 (q := (yX3_runAndLog, 9)) 13 rfl) rfl
theorem kse_X1_computePostings : Cond.selects RX1 yX1_computePostings yX1_computePostings ∈ WS := mws (tp1 (q := (yX1_computePostings, 5)) 14 rfl) rfl
theorem kse_X3_negatePostings : Cond.selects RX3 yX3_negatePostings yX3_negatePostings ∈ WS := mws (tp1 (q := (yX3_negatePostings, 9)) 15 rfl) rfl
theorem kse_X3_requireNoLineFails : Cond.selects RX3 yX3_requireNoLineFails yX3_requireNoLineFails ∈ WS := mws (tp2 (q := (yX3_requireNoLineFails, 9)) 0 rfl) rfl
theorem kse_X0_fill : Cond.selects RX0 yX0_fill yX0_fill ∈ WS := mws (tp2 (q := (yX0_fill, 6)) 1 rfl) rfl
theorem kse_X3_requireRequest : Cond.selects RX3 yX3_requireRequest yX3_requireRequest ∈ WS := mws (tp2 (q := (yX3_requireRequest, 9)) 2 rfl) rfl
theorem kse_X3_mayApprove : Cond.selects RX3 yX3_mayApprove yX3_mayApprove ∈ WS := mws (tp2 (q := (yX3_mayApprove, 9)) 3 rfl) rfl
theorem kse_X2_clear : Cond.selects RX2 yX2_clear yX2_clear ∈ WS := mws (tp2 (q := (yX2_clear, 3)) 4 rfl) rfl
theorem kse_X3_requireEntry : Cond.selects RX3 yX3_requireEntry yX3_requireEntry ∈ WS := mws (tp2 (q := (yX3_requireEntry, 9)) 5 rfl) rfl
theorem kse_X4_isProcedure : Cond.selects RX4 yX4_isProcedure yX4_isProcedure ∈ WS := mws (tp2 (q := (yX4_isProcedure, 20)) 6 rfl) rfl
theorem kse_X4_hasLine : Cond.selects RX4 yX4_hasLine yX4_hasLine ∈ WS := mws (tp2 (q := (yX4_hasLine, 20)) 7 rfl) rfl
theorem kse_X4_allShares : Cond.selects RX4 yX4_allShares yX4_allShares ∈ WS := mws (tp2 (q := (yX4_allShares, 20)) 8 rfl) rfl
theorem kse_X4_may : Cond.selects RX4 yX4_may yX4_may ∈ WS := mws (tp2 (q := (yX4_may, 20)) 9 rfl) rfl
theorem kse_X4_isSound : Cond.selects RX4 yX4_isSound yX4_isSound ∈ WS := mws (tp2 (q := (yX4_isSound, 20)) 10 rfl) rfl
theorem kse_X4_logged : Cond.selects RX4 yX4_logged yX4_logged ∈ WS := mws (tp2 (q := (yX4_logged, 20)) 11 rfl) rfl
theorem kse_X4_findPosts : Cond.selects RX4 yX4_findPosts yX4_findPosts ∈ WS := mws (tp2 (q := (yX4_findPosts, 20)) 12 rfl) rfl
theorem kse_X4_request : Cond.selects RX4 yX4_request yX4_request ∈ WS := mws (tp2 (q := (yX4_request, 20)) 13 rfl) rfl
theorem kse_X4_freeRequest : Cond.selects RX4 yX4_freeRequest yX4_freeRequest ∈ WS := mws (tp2 (q := (yX4_freeRequest, 20)) 14 rfl) rfl
theorem kse_X4_enter : Cond.selects RX4 yX4_enter yX4_enter ∈ WS := mws (tp2 (q := (yX4_enter, 20)) 15 rfl) rfl
theorem kse_X4_run : Cond.selects RX4 yX4_run yX4_run ∈ WS := mws (tp3 (q := (yX4_run, 20)) 0 rfl) rfl
theorem kse_X4_isRequest : Cond.selects RX4 yX4_isRequest yX4_isRequest ∈ WS := mws (tp3 (q := (yX4_isRequest, 20)) 1 rfl) rfl
theorem kse_X4_mayApprove : Cond.selects RX4 yX4_mayApprove yX4_mayApprove ∈ WS := mws (tp3 (q := (yX4_mayApprove, 20)) 2 rfl) rfl
theorem kse_X4_isEntry : Cond.selects RX4 yX4_isEntry yX4_isEntry ∈ WS := mws (tp3 (q := (yX4_isEntry, 20)) 3 rfl) rfl
theorem inwX0 : ∀ w ∈ u_ws RX0 TX0 6, w ∈ WS := fun w h => mws (inX0_t w h) (List.all_eq_true.mp (show (u_ws RX0 TX0 6).all goodWord = true by decide +kernel) w h)
theorem inwX1 : ∀ w ∈ u_ws RX1 TX1 5, w ∈ WS := fun w h => mws (inX1_t w h) (List.all_eq_true.mp (show (u_ws RX1 TX1 5).all goodWord = true by decide +kernel) w h)
theorem inwX2 : ∀ w ∈ u_ws RX2 TX2 3, w ∈ WS := fun w h => mws (inX2_t w h) (List.all_eq_true.mp (show (u_ws RX2 TX2 3).all goodWord = true by decide +kernel) w h)
theorem inwX3 : ∀ w ∈ u_ws RX3 TX3 9, w ∈ WS := fun w h => mws (inX3_t w h) (List.all_eq_true.mp (show (u_ws RX3 TX3 9).all goodWord = true by decide +kernel) w h)
theorem inwX4 : ∀ w ∈ u_ws RX4 TX4 20, w ∈ WS := fun w h => mws (inX4_t w h) (List.all_eq_true.mp (show (u_ws RX4 TX4 20).all goodWord = true by decide +kernel) w h)
/-- the links between nest mates -/
def gNW : List Cond := [Cond.methodLinkNest RX3 51 yX1_init "CertifiedBooks", Cond.fieldLinkNest RX3 242 "CertifiedBooks$Procedure" "accounts" "[I" "CertifiedBooks", Cond.fieldLinkNest RX3 88 "CertifiedBooks$Procedure" "lineCount" "I" "CertifiedBooks", Cond.fieldLinkNest RX3 105 "CertifiedBooks$Procedure" "certifier" "I" "CertifiedBooks", Cond.fieldLinkNest RX3 113 "CertifiedBooks$Procedure" "grants" "[Z" "CertifiedBooks", Cond.methodLinkNest RX3 52 yX2_init "CertifiedBooks", Cond.fieldLinkNest RX3 152 "CertifiedBooks$Request" "asker" "I" "CertifiedBooks", Cond.fieldLinkNest RX3 155 "CertifiedBooks$Request" "procedure" "I" "CertifiedBooks", Cond.fieldLinkNest RX3 158 "CertifiedBooks$Request" "amount" "J" "CertifiedBooks", Cond.methodLinkNest RX3 53 yX0_init "CertifiedBooks", Cond.fieldLinkNest RX3 170 "CertifiedBooks$Entry" "procedure" "I" "CertifiedBooks", Cond.fieldLinkNest RX3 182 "CertifiedBooks$Entry" "amount" "J" "CertifiedBooks", Cond.fieldLinkNest RX3 171 "CertifiedBooks$Entry" "asker" "I" "CertifiedBooks", Cond.fieldLinkNest RX3 199 "CertifiedBooks$Entry" "approver" "I" "CertifiedBooks", Cond.fieldLinkNest RX3 174 "CertifiedBooks$Entry" "reversalOf" "I" "CertifiedBooks", Cond.fieldLinkNest RX3 177 "CertifiedBooks$Entry" "reversedBy" "I" "CertifiedBooks", Cond.methodLinkNest RX3 84 yX1_isCertified "CertifiedBooks", Cond.methodLinkNest RX3 68 yX1_appendLine "CertifiedBooks", Cond.methodLinkNest RX3 75 yX1_hasLineFor "CertifiedBooks", Cond.methodLinkNest RX3 99 yX1_shareSum "CertifiedBooks", Cond.methodLinkNest RX3 216 yX2_isInUse "CertifiedBooks", Cond.methodLinkNest RX3 219 yX2_fill "CertifiedBooks", Cond.methodLinkNest RX3 225 yX1_computePostings "CertifiedBooks", Cond.methodLinkNest RX3 246 yX0_fill "CertifiedBooks", Cond.methodLinkNest RX3 162 yX2_clear "CertifiedBooks"]
theorem kn_m51 : Cond.methodLinkNest RX3 51 yX1_init "CertifiedBooks" ∈ gNW := List.mem_of_getElem? (i := 0) rfl
theorem kn_f242 : Cond.fieldLinkNest RX3 242 "CertifiedBooks$Procedure" "accounts" "[I" "CertifiedBooks" ∈ gNW := List.mem_of_getElem? (i := 1) rfl
theorem kn_f88 : Cond.fieldLinkNest RX3 88 "CertifiedBooks$Procedure" "lineCount" "I" "CertifiedBooks" ∈ gNW := List.mem_of_getElem? (i := 2) rfl
theorem kn_f105 : Cond.fieldLinkNest RX3 105 "CertifiedBooks$Procedure" "certifier" "I" "CertifiedBooks" ∈ gNW := List.mem_of_getElem? (i := 3) rfl
theorem kn_f113 : Cond.fieldLinkNest RX3 113 "CertifiedBooks$Procedure" "grants" "[Z" "CertifiedBooks" ∈ gNW := List.mem_of_getElem? (i := 4) rfl
theorem kn_m52 : Cond.methodLinkNest RX3 52 yX2_init "CertifiedBooks" ∈ gNW := List.mem_of_getElem? (i := 5) rfl
theorem kn_f152 : Cond.fieldLinkNest RX3 152 "CertifiedBooks$Request" "asker" "I" "CertifiedBooks" ∈ gNW := List.mem_of_getElem? (i := 6) rfl
theorem kn_f155 : Cond.fieldLinkNest RX3 155 "CertifiedBooks$Request" "procedure" "I" "CertifiedBooks" ∈ gNW := List.mem_of_getElem? (i := 7) rfl
theorem kn_f158 : Cond.fieldLinkNest RX3 158 "CertifiedBooks$Request" "amount" "J" "CertifiedBooks" ∈ gNW := List.mem_of_getElem? (i := 8) rfl
theorem kn_m53 : Cond.methodLinkNest RX3 53 yX0_init "CertifiedBooks" ∈ gNW := List.mem_of_getElem? (i := 9) rfl
theorem kn_f170 : Cond.fieldLinkNest RX3 170 "CertifiedBooks$Entry" "procedure" "I" "CertifiedBooks" ∈ gNW := List.mem_of_getElem? (i := 10) rfl
theorem kn_f182 : Cond.fieldLinkNest RX3 182 "CertifiedBooks$Entry" "amount" "J" "CertifiedBooks" ∈ gNW := List.mem_of_getElem? (i := 11) rfl
theorem kn_f171 : Cond.fieldLinkNest RX3 171 "CertifiedBooks$Entry" "asker" "I" "CertifiedBooks" ∈ gNW := List.mem_of_getElem? (i := 12) rfl
theorem kn_f199 : Cond.fieldLinkNest RX3 199 "CertifiedBooks$Entry" "approver" "I" "CertifiedBooks" ∈ gNW := List.mem_of_getElem? (i := 13) rfl
theorem kn_f174 : Cond.fieldLinkNest RX3 174 "CertifiedBooks$Entry" "reversalOf" "I" "CertifiedBooks" ∈ gNW := List.mem_of_getElem? (i := 14) rfl
theorem kn_f177 : Cond.fieldLinkNest RX3 177 "CertifiedBooks$Entry" "reversedBy" "I" "CertifiedBooks" ∈ gNW := List.mem_of_getElem? (i := 15) rfl
theorem kn_m84 : Cond.methodLinkNest RX3 84 yX1_isCertified "CertifiedBooks" ∈ gNW := List.mem_of_getElem? (i := 16) rfl
theorem kn_m68 : Cond.methodLinkNest RX3 68 yX1_appendLine "CertifiedBooks" ∈ gNW := List.mem_of_getElem? (i := 17) rfl
theorem kn_m75 : Cond.methodLinkNest RX3 75 yX1_hasLineFor "CertifiedBooks" ∈ gNW := List.mem_of_getElem? (i := 18) rfl
theorem kn_m99 : Cond.methodLinkNest RX3 99 yX1_shareSum "CertifiedBooks" ∈ gNW := List.mem_of_getElem? (i := 19) rfl
theorem kn_m216 : Cond.methodLinkNest RX3 216 yX2_isInUse "CertifiedBooks" ∈ gNW := List.mem_of_getElem? (i := 20) rfl
theorem kn_m219 : Cond.methodLinkNest RX3 219 yX2_fill "CertifiedBooks" ∈ gNW := List.mem_of_getElem? (i := 21) rfl
theorem kn_m225 : Cond.methodLinkNest RX3 225 yX1_computePostings "CertifiedBooks" ∈ gNW := List.mem_of_getElem? (i := 22) rfl
theorem kn_m246 : Cond.methodLinkNest RX3 246 yX0_fill "CertifiedBooks" ∈ gNW := List.mem_of_getElem? (i := 23) rfl
theorem kn_m162 : Cond.methodLinkNest RX3 162 yX2_clear "CertifiedBooks" ∈ gNW := List.mem_of_getElem? (i := 24) rfl
theorem gNW_in : ∀ w ∈ gNW, w ∈ lw_tbl := List.forall_mem_cons.mpr ⟨tb1 32 rfl, List.forall_mem_cons.mpr ⟨tb1 37 rfl, List.forall_mem_cons.mpr ⟨tb1 40 rfl, List.forall_mem_cons.mpr ⟨tb1 42 rfl, List.forall_mem_cons.mpr ⟨tb1 44 rfl, List.forall_mem_cons.mpr ⟨tb1 60 rfl, List.forall_mem_cons.mpr ⟨tb1 65 rfl, List.forall_mem_cons.mpr ⟨tb1 67 rfl, List.forall_mem_cons.mpr ⟨tb1 69 rfl, List.forall_mem_cons.mpr ⟨tb1 78 rfl, List.forall_mem_cons.mpr ⟨tb1 83 rfl, List.forall_mem_cons.mpr ⟨tb1 85 rfl, List.forall_mem_cons.mpr ⟨tb1 87 rfl, List.forall_mem_cons.mpr ⟨tb1 89 rfl, List.forall_mem_cons.mpr ⟨tb1 91 rfl, List.forall_mem_cons.mpr ⟨tb1 93 rfl, List.forall_mem_cons.mpr ⟨tb1 158 rfl, List.forall_mem_cons.mpr ⟨tb2 39 rfl, List.forall_mem_cons.mpr ⟨tb2 55 rfl, List.forall_mem_cons.mpr ⟨tb2 92 rfl, List.forall_mem_cons.mpr ⟨tb2 143 rfl, List.forall_mem_cons.mpr ⟨tb2 147 rfl, List.forall_mem_cons.mpr ⟨tb2 156 rfl, List.forall_mem_cons.mpr ⟨tb2 173 rfl, List.forall_mem_cons.mpr ⟨tb2 194 rfl, fun _ h => absurd h List.not_mem_nil⟩⟩⟩⟩⟩⟩⟩⟩⟩⟩⟩⟩⟩⟩⟩⟩⟩⟩⟩⟩⟩⟩⟩⟩⟩
theorem gNW_warm {s U : State} (hW : s.WarmedH U.vm) : ∀ w ∈ gNW, va_Nw w s → va_Nw w U := List.forall_mem_cons.mpr ⟨fun h => va_Nw.warmM hW h, List.forall_mem_cons.mpr ⟨fun h => va_Nw.warmF hW h, List.forall_mem_cons.mpr ⟨fun h => va_Nw.warmF hW h, List.forall_mem_cons.mpr ⟨fun h => va_Nw.warmF hW h, List.forall_mem_cons.mpr ⟨fun h => va_Nw.warmF hW h, List.forall_mem_cons.mpr ⟨fun h => va_Nw.warmM hW h, List.forall_mem_cons.mpr ⟨fun h => va_Nw.warmF hW h, List.forall_mem_cons.mpr ⟨fun h => va_Nw.warmF hW h, List.forall_mem_cons.mpr ⟨fun h => va_Nw.warmF hW h, List.forall_mem_cons.mpr ⟨fun h => va_Nw.warmM hW h, List.forall_mem_cons.mpr ⟨fun h => va_Nw.warmF hW h, List.forall_mem_cons.mpr ⟨fun h => va_Nw.warmF hW h, List.forall_mem_cons.mpr ⟨fun h => va_Nw.warmF hW h, List.forall_mem_cons.mpr ⟨fun h => va_Nw.warmF hW h, List.forall_mem_cons.mpr ⟨fun h => va_Nw.warmF hW h, List.forall_mem_cons.mpr ⟨fun h => va_Nw.warmF hW h, List.forall_mem_cons.mpr ⟨fun h => va_Nw.warmM hW h, List.forall_mem_cons.mpr ⟨fun h => va_Nw.warmM hW h, List.forall_mem_cons.mpr ⟨fun h => va_Nw.warmM hW h, List.forall_mem_cons.mpr ⟨fun h => va_Nw.warmM hW h, List.forall_mem_cons.mpr ⟨fun h => va_Nw.warmM hW h, List.forall_mem_cons.mpr ⟨fun h => va_Nw.warmM hW h, List.forall_mem_cons.mpr ⟨fun h => va_Nw.warmM hW h, List.forall_mem_cons.mpr ⟨fun h => va_Nw.warmM hW h, List.forall_mem_cons.mpr ⟨fun h => va_Nw.warmM hW h, fun _ h => absurd h List.not_mem_nil⟩⟩⟩⟩⟩⟩⟩⟩⟩⟩⟩⟩⟩⟩⟩⟩⟩⟩⟩⟩⟩⟩⟩⟩⟩
/-- the texts of the exceptions -/
def gST : List (Nat × String) := [(265, "no such account"), (271, "no such share"), (63, "there are as many procedures as may be"), (259, "no such procedure"), (81, "a line has the account"), (91, "the procedure takes no more lines"), (267, "no such user"), (269, "the user is no officer"), (103, "the procedure can't be certified"), (110, "no officer grants to themselves"), (121, "no such floor"), (257, "the user may not run the procedure"), (128, "no such amount"), (253, "the books are not sound"), (255, "the log is full"), (223, "there are as many requests as may be"), (251, "the run fails"), (261, "no such request"), (150, "the user may not approve the request"), (165, "the user may not withdraw the request"), (263, "no such entry"), (172, "the user asked for the entry"), (180, "the entry is a reversal or reversed"), (187, "more than can be tampered with at once"), (189, "no such balance"), (196, "there are not so many entries"), (202, "an entry has nothing of that number"), (204, "no request has that number")]
theorem ks_265 : (265, "no such account") ∈ gST := List.mem_of_getElem? (i := 0) rfl
theorem ks_271 : (271, "no such share") ∈ gST := List.mem_of_getElem? (i := 1) rfl
theorem ks_63 : (63, "there are as many procedures as may be") ∈ gST := List.mem_of_getElem? (i := 2) rfl
theorem ks_259 : (259, "no such procedure") ∈ gST := List.mem_of_getElem? (i := 3) rfl
theorem ks_81 : (81, "a line has the account") ∈ gST := List.mem_of_getElem? (i := 4) rfl
theorem ks_91 : (91, "the procedure takes no more lines") ∈ gST := List.mem_of_getElem? (i := 5) rfl
theorem ks_267 : (267, "no such user") ∈ gST := List.mem_of_getElem? (i := 6) rfl
theorem ks_269 : (269, "the user is no officer") ∈ gST := List.mem_of_getElem? (i := 7) rfl
theorem ks_103 : (103, "the procedure can't be certified") ∈ gST := List.mem_of_getElem? (i := 8) rfl
theorem ks_110 : (110, "no officer grants to themselves") ∈ gST := List.mem_of_getElem? (i := 9) rfl
theorem ks_121 : (121, "no such floor") ∈ gST := List.mem_of_getElem? (i := 10) rfl
theorem ks_257 : (257, "the user may not run the procedure") ∈ gST := List.mem_of_getElem? (i := 11) rfl
theorem ks_128 : (128, "no such amount") ∈ gST := List.mem_of_getElem? (i := 12) rfl
theorem ks_253 : (253, "the books are not sound") ∈ gST := List.mem_of_getElem? (i := 13) rfl
theorem ks_255 : (255, "the log is full") ∈ gST := List.mem_of_getElem? (i := 14) rfl
theorem ks_223 : (223, "there are as many requests as may be") ∈ gST := List.mem_of_getElem? (i := 15) rfl
theorem ks_251 : (251, "the run fails") ∈ gST := List.mem_of_getElem? (i := 16) rfl
theorem ks_261 : (261, "no such request") ∈ gST := List.mem_of_getElem? (i := 17) rfl
theorem ks_150 : (150, "the user may not approve the request") ∈ gST := List.mem_of_getElem? (i := 18) rfl
theorem ks_165 : (165, "the user may not withdraw the request") ∈ gST := List.mem_of_getElem? (i := 19) rfl
theorem ks_263 : (263, "no such entry") ∈ gST := List.mem_of_getElem? (i := 20) rfl
theorem ks_172 : (172, "the user asked for the entry") ∈ gST := List.mem_of_getElem? (i := 21) rfl
theorem ks_180 : (180, "the entry is a reversal or reversed") ∈ gST := List.mem_of_getElem? (i := 22) rfl
theorem ks_187 : (187, "more than can be tampered with at once") ∈ gST := List.mem_of_getElem? (i := 23) rfl
theorem ks_189 : (189, "no such balance") ∈ gST := List.mem_of_getElem? (i := 24) rfl
theorem ks_196 : (196, "there are not so many entries") ∈ gST := List.mem_of_getElem? (i := 25) rfl
theorem ks_202 : (202, "an entry has nothing of that number") ∈ gST := List.mem_of_getElem? (i := 26) rfl
theorem ks_204 : (204, "no request has that number") ∈ gST := List.mem_of_getElem? (i := 27) rfl
theorem gST_in : ∀ q ∈ gST, Cond.stringRef RX3 q.1 q.2 ∈ lw_tbl := List.forall_mem_cons.mpr ⟨tb1 217 rfl, List.forall_mem_cons.mpr ⟨tb2 16 rfl, List.forall_mem_cons.mpr ⟨tb2 32 rfl, List.forall_mem_cons.mpr ⟨tb2 54 rfl, List.forall_mem_cons.mpr ⟨tb2 59 rfl, List.forall_mem_cons.mpr ⟨tb2 60 rfl, List.forall_mem_cons.mpr ⟨tb2 72 rfl, List.forall_mem_cons.mpr ⟨tb2 85 rfl, List.forall_mem_cons.mpr ⟨tb2 96 rfl, List.forall_mem_cons.mpr ⟨tb2 104 rfl, List.forall_mem_cons.mpr ⟨tb2 116 rfl, List.forall_mem_cons.mpr ⟨tb2 129 rfl, List.forall_mem_cons.mpr ⟨tb2 131 rfl, List.forall_mem_cons.mpr ⟨tb2 136 rfl, List.forall_mem_cons.mpr ⟨tb2 137 rfl, List.forall_mem_cons.mpr ⟨tb2 151 rfl, List.forall_mem_cons.mpr ⟨tb2 169 rfl, List.forall_mem_cons.mpr ⟨tb2 188 rfl, List.forall_mem_cons.mpr ⟨tb2 193 rfl, List.forall_mem_cons.mpr ⟨tb2 205 rfl, List.forall_mem_cons.mpr ⟨tb2 217 rfl, List.forall_mem_cons.mpr ⟨tb2 218 rfl, List.forall_mem_cons.mpr ⟨tb2 219 rfl, List.forall_mem_cons.mpr ⟨tb2 229 rfl, List.forall_mem_cons.mpr ⟨tb2 230 rfl, List.forall_mem_cons.mpr ⟨tb3 12 rfl, List.forall_mem_cons.mpr ⟨tb3 20 rfl, List.forall_mem_cons.mpr ⟨tb3 35 rfl, fun _ h => absurd h List.not_mem_nil⟩⟩⟩⟩⟩⟩⟩⟩⟩⟩⟩⟩⟩⟩⟩⟩⟩⟩⟩⟩⟩⟩⟩⟩⟩⟩⟩⟩
end
section
theorem dX0_init_0 : decode cX0_init 0 = .ok (.aload_n 0, 1) := by decide +kernel
theorem dX0_init_1 : decode cX0_init 1 = .ok (.invokespecial 3, 3) := by decide +kernel
theorem dX0_init_4 : decode cX0_init 4 = .ok (.aload_n 0, 1) := by decide +kernel
theorem dX0_init_5 : decode cX0_init 5 = .ok (.iconst (-1), 1) := by decide +kernel
theorem dX0_init_6 : decode cX0_init 6 = .ok (.putfield 9, 3) := by decide +kernel
theorem dX0_init_9 : decode cX0_init 9 = .ok (.aload_n 0, 1) := by decide +kernel
theorem dX0_init_10 : decode cX0_init 10 = .ok (.lconst 0, 1) := by decide +kernel
theorem dX0_init_11 : decode cX0_init 11 = .ok (.putfield 15, 3) := by decide +kernel
theorem dX0_init_14 : decode cX0_init 14 = .ok (.aload_n 0, 1) := by decide +kernel
theorem dX0_init_15 : decode cX0_init 15 = .ok (.iconst (-1), 1) := by decide +kernel
theorem dX0_init_16 : decode cX0_init 16 = .ok (.putfield 19, 3) := by decide +kernel
theorem dX0_init_19 : decode cX0_init 19 = .ok (.aload_n 0, 1) := by decide +kernel
theorem dX0_init_20 : decode cX0_init 20 = .ok (.iconst (-1), 1) := by decide +kernel
theorem dX0_init_21 : decode cX0_init 21 = .ok (.putfield 22, 3) := by decide +kernel
theorem dX0_init_24 : decode cX0_init 24 = .ok (.aload_n 0, 1) := by decide +kernel
theorem dX0_init_25 : decode cX0_init 25 = .ok (.iconst (-1), 1) := by decide +kernel
theorem dX0_init_26 : decode cX0_init 26 = .ok (.putfield 25, 3) := by decide +kernel
theorem dX0_init_29 : decode cX0_init 29 = .ok (.aload_n 0, 1) := by decide +kernel
theorem dX0_init_30 : decode cX0_init 30 = .ok (.iconst (-1), 1) := by decide +kernel
theorem dX0_init_31 : decode cX0_init 31 = .ok (.putfield 28, 3) := by decide +kernel
theorem dX0_init_34 : decode cX0_init 34 = .ok (.return_, 1) := by decide +kernel
theorem dX0_fill_0 : decode cX0_fill 0 = .ok (.aload_n 0, 1) := by decide +kernel
theorem dX0_fill_1 : decode cX0_fill 1 = .ok (.iload_n 1, 1) := by decide +kernel
theorem dX0_fill_2 : decode cX0_fill 2 = .ok (.putfield 9, 3) := by decide +kernel
theorem dX0_fill_5 : decode cX0_fill 5 = .ok (.aload_n 0, 1) := by decide +kernel
theorem dX0_fill_6 : decode cX0_fill 6 = .ok (.lload_n 2, 1) := by decide +kernel
theorem dX0_fill_7 : decode cX0_fill 7 = .ok (.putfield 15, 3) := by decide +kernel
theorem dX0_fill_10 : decode cX0_fill 10 = .ok (.aload_n 0, 1) := by decide +kernel
theorem dX0_fill_11 : decode cX0_fill 11 = .ok (.iload 4, 2) := by decide +kernel
theorem dX0_fill_13 : decode cX0_fill 13 = .ok (.putfield 19, 3) := by decide +kernel
theorem dX0_fill_16 : decode cX0_fill 16 = .ok (.aload_n 0, 1) := by decide +kernel
theorem dX0_fill_17 : decode cX0_fill 17 = .ok (.iload 5, 2) := by decide +kernel
theorem dX0_fill_19 : decode cX0_fill 19 = .ok (.putfield 22, 3) := by decide +kernel
theorem dX0_fill_22 : decode cX0_fill 22 = .ok (.aload_n 0, 1) := by decide +kernel
theorem dX0_fill_23 : decode cX0_fill 23 = .ok (.iload 6, 2) := by decide +kernel
theorem dX0_fill_25 : decode cX0_fill 25 = .ok (.putfield 25, 3) := by decide +kernel
theorem dX0_fill_28 : decode cX0_fill 28 = .ok (.return_, 1) := by decide +kernel
theorem dX1_init_0 : decode cX1_init 0 = .ok (.aload_n 0, 1) := by decide +kernel
theorem dX1_init_1 : decode cX1_init 1 = .ok (.invokespecial 3, 3) := by decide +kernel
theorem dX1_init_4 : decode cX1_init 4 = .ok (.aload_n 0, 1) := by decide +kernel
theorem dX1_init_5 : decode cX1_init 5 = .ok (.iconst 4, 1) := by decide +kernel
theorem dX1_init_6 : decode cX1_init 6 = .ok (.newarray .int, 2) := by decide +kernel
theorem dX1_init_8 : decode cX1_init 8 = .ok (.putfield 9, 3) := by decide +kernel
theorem dX1_init_11 : decode cX1_init 11 = .ok (.aload_n 0, 1) := by decide +kernel
theorem dX1_init_12 : decode cX1_init 12 = .ok (.iconst 4, 1) := by decide +kernel
theorem dX1_init_13 : decode cX1_init 13 = .ok (.newarray .int, 2) := by decide +kernel
theorem dX1_init_15 : decode cX1_init 15 = .ok (.putfield 15, 3) := by decide +kernel
theorem dX1_init_18 : decode cX1_init 18 = .ok (.aload_n 0, 1) := by decide +kernel
theorem dX1_init_19 : decode cX1_init 19 = .ok (.iconst 0, 1) := by decide +kernel
theorem dX1_init_20 : decode cX1_init 20 = .ok (.putfield 18, 3) := by decide +kernel
theorem dX1_init_23 : decode cX1_init 23 = .ok (.aload_n 0, 1) := by decide +kernel
theorem dX1_init_24 : decode cX1_init 24 = .ok (.iconst (-1), 1) := by decide +kernel
theorem dX1_init_25 : decode cX1_init 25 = .ok (.putfield 22, 3) := by decide +kernel
theorem dX1_init_28 : decode cX1_init 28 = .ok (.aload_n 0, 1) := by decide +kernel
theorem dX1_init_29 : decode cX1_init 29 = .ok (.bipush 8, 2) := by decide +kernel
theorem dX1_init_31 : decode cX1_init 31 = .ok (.newarray .boolean, 2) := by decide +kernel
theorem dX1_init_33 : decode cX1_init 33 = .ok (.putfield 25, 3) := by decide +kernel
theorem dX1_init_36 : decode cX1_init 36 = .ok (.return_, 1) := by decide +kernel
theorem dX1_isCertified_0 : decode cX1_isCertified 0 = .ok (.aload_n 0, 1) := by decide +kernel
theorem dX1_isCertified_1 : decode cX1_isCertified 1 = .ok (.getfield 22, 3) := by decide +kernel
theorem dX1_isCertified_4 : decode cX1_isCertified 4 = .ok (.iconst (-1), 1) := by decide +kernel
theorem dX1_isCertified_5 : decode cX1_isCertified 5 = .ok (.if_icmp .eq 7, 3) := by decide +kernel
theorem dX1_isCertified_8 : decode cX1_isCertified 8 = .ok (.iconst 1, 1) := by decide +kernel
theorem dX1_isCertified_9 : decode cX1_isCertified 9 = .ok (.goto 4, 3) := by decide +kernel
theorem dX1_isCertified_12 : decode cX1_isCertified 12 = .ok (.iconst 0, 1) := by decide +kernel
theorem dX1_isCertified_13 : decode cX1_isCertified 13 = .ok (.ireturn, 1) := by decide +kernel
theorem dX1_hasLineFor_0 : decode cX1_hasLineFor 0 = .ok (.iconst 0, 1) := by decide +kernel
theorem dX1_hasLineFor_1 : decode cX1_hasLineFor 1 = .ok (.istore_n 2, 1) := by decide +kernel
theorem dX1_hasLineFor_2 : decode cX1_hasLineFor 2 = .ok (.iload_n 2, 1) := by decide +kernel
theorem dX1_hasLineFor_3 : decode cX1_hasLineFor 3 = .ok (.aload_n 0, 1) := by decide +kernel
theorem dX1_hasLineFor_4 : decode cX1_hasLineFor 4 = .ok (.getfield 18, 3) := by decide +kernel
theorem dX1_hasLineFor_7 : decode cX1_hasLineFor 7 = .ok (.if_icmp .ge 21, 3) := by decide +kernel
theorem dX1_hasLineFor_10 : decode cX1_hasLineFor 10 = .ok (.aload_n 0, 1) := by decide +kernel
theorem dX1_hasLineFor_11 : decode cX1_hasLineFor 11 = .ok (.getfield 9, 3) := by decide +kernel
theorem dX1_hasLineFor_14 : decode cX1_hasLineFor 14 = .ok (.iload_n 2, 1) := by decide +kernel
theorem dX1_hasLineFor_15 : decode cX1_hasLineFor 15 = .ok (.iaload, 1) := by decide +kernel
theorem dX1_hasLineFor_16 : decode cX1_hasLineFor 16 = .ok (.iload_n 1, 1) := by decide +kernel
theorem dX1_hasLineFor_17 : decode cX1_hasLineFor 17 = .ok (.if_icmp .ne 5, 3) := by decide +kernel
theorem dX1_hasLineFor_20 : decode cX1_hasLineFor 20 = .ok (.iconst 1, 1) := by decide +kernel
theorem dX1_hasLineFor_21 : decode cX1_hasLineFor 21 = .ok (.ireturn, 1) := by decide +kernel
theorem dX1_hasLineFor_22 : decode cX1_hasLineFor 22 = .ok (.iinc 2 1, 3) := by decide +kernel
theorem dX1_hasLineFor_25 : decode cX1_hasLineFor 25 = .ok (.goto (-23), 3) := by decide +kernel
theorem dX1_hasLineFor_28 : decode cX1_hasLineFor 28 = .ok (.iconst 0, 1) := by decide +kernel
theorem dX1_hasLineFor_29 : decode cX1_hasLineFor 29 = .ok (.ireturn, 1) := by decide +kernel
theorem dX1_appendLine_0 : decode cX1_appendLine 0 = .ok (.aload_n 0, 1) := by decide +kernel
theorem dX1_appendLine_1 : decode cX1_appendLine 1 = .ok (.getfield 9, 3) := by decide +kernel
theorem dX1_appendLine_4 : decode cX1_appendLine 4 = .ok (.aload_n 0, 1) := by decide +kernel
theorem dX1_appendLine_5 : decode cX1_appendLine 5 = .ok (.getfield 18, 3) := by decide +kernel
theorem dX1_appendLine_8 : decode cX1_appendLine 8 = .ok (.iload_n 1, 1) := by decide +kernel
theorem dX1_appendLine_9 : decode cX1_appendLine 9 = .ok (.iastore, 1) := by decide +kernel
theorem dX1_appendLine_10 : decode cX1_appendLine 10 = .ok (.aload_n 0, 1) := by decide +kernel
theorem dX1_appendLine_11 : decode cX1_appendLine 11 = .ok (.getfield 15, 3) := by decide +kernel
theorem dX1_appendLine_14 : decode cX1_appendLine 14 = .ok (.aload_n 0, 1) := by decide +kernel
theorem dX1_appendLine_15 : decode cX1_appendLine 15 = .ok (.getfield 18, 3) := by decide +kernel
theorem dX1_appendLine_18 : decode cX1_appendLine 18 = .ok (.iload_n 2, 1) := by decide +kernel
theorem dX1_appendLine_19 : decode cX1_appendLine 19 = .ok (.iastore, 1) := by decide +kernel
theorem dX1_appendLine_20 : decode cX1_appendLine 20 = .ok (.aload_n 0, 1) := by decide +kernel
theorem dX1_appendLine_21 : decode cX1_appendLine 21 = .ok (.dup, 1) := by decide +kernel
theorem dX1_appendLine_22 : decode cX1_appendLine 22 = .ok (.getfield 18, 3) := by decide +kernel
theorem dX1_appendLine_25 : decode cX1_appendLine 25 = .ok (.iconst 1, 1) := by decide +kernel
theorem dX1_appendLine_26 : decode cX1_appendLine 26 = .ok (.iadd, 1) := by decide +kernel
theorem dX1_appendLine_27 : decode cX1_appendLine 27 = .ok (.putfield 18, 3) := by decide +kernel
theorem dX1_appendLine_30 : decode cX1_appendLine 30 = .ok (.return_, 1) := by decide +kernel
theorem dX1_shareSum_0 : decode cX1_shareSum 0 = .ok (.iconst 0, 1) := by decide +kernel
theorem dX1_shareSum_1 : decode cX1_shareSum 1 = .ok (.istore_n 1, 1) := by decide +kernel
theorem dX1_shareSum_2 : decode cX1_shareSum 2 = .ok (.iconst 0, 1) := by decide +kernel
theorem dX1_shareSum_3 : decode cX1_shareSum 3 = .ok (.istore_n 2, 1) := by decide +kernel
theorem dX1_shareSum_4 : decode cX1_shareSum 4 = .ok (.iload_n 2, 1) := by decide +kernel
theorem dX1_shareSum_5 : decode cX1_shareSum 5 = .ok (.aload_n 0, 1) := by decide +kernel
theorem dX1_shareSum_6 : decode cX1_shareSum 6 = .ok (.getfield 18, 3) := by decide +kernel
theorem dX1_shareSum_9 : decode cX1_shareSum 9 = .ok (.if_icmp .ge 18, 3) := by decide +kernel
theorem dX1_shareSum_12 : decode cX1_shareSum 12 = .ok (.iload_n 1, 1) := by decide +kernel
theorem dX1_shareSum_13 : decode cX1_shareSum 13 = .ok (.aload_n 0, 1) := by decide +kernel
theorem dX1_shareSum_14 : decode cX1_shareSum 14 = .ok (.getfield 15, 3) := by decide +kernel
theorem dX1_shareSum_17 : decode cX1_shareSum 17 = .ok (.iload_n 2, 1) := by decide +kernel
theorem dX1_shareSum_18 : decode cX1_shareSum 18 = .ok (.iaload, 1) := by decide +kernel
theorem dX1_shareSum_19 : decode cX1_shareSum 19 = .ok (.iadd, 1) := by decide +kernel
theorem dX1_shareSum_20 : decode cX1_shareSum 20 = .ok (.istore_n 1, 1) := by decide +kernel
theorem dX1_shareSum_21 : decode cX1_shareSum 21 = .ok (.iinc 2 1, 3) := by decide +kernel
theorem dX1_shareSum_24 : decode cX1_shareSum 24 = .ok (.goto (-20), 3) := by decide +kernel
theorem dX1_shareSum_27 : decode cX1_shareSum 27 = .ok (.iload_n 1, 1) := by decide +kernel
theorem dX1_shareSum_28 : decode cX1_shareSum 28 = .ok (.ireturn, 1) := by decide +kernel
theorem dX1_computePostings_0 : decode cX1_computePostings 0 = .ok (.lconst 0, 1) := by decide +kernel
theorem dX1_computePostings_1 : decode cX1_computePostings 1 = .ok (.lstore 4, 2) := by decide +kernel
theorem dX1_computePostings_3 : decode cX1_computePostings 3 = .ok (.iconst 0, 1) := by decide +kernel
theorem dX1_computePostings_4 : decode cX1_computePostings 4 = .ok (.istore 6, 2) := by decide +kernel
theorem dX1_computePostings_6 : decode cX1_computePostings 6 = .ok (.iload 6, 2) := by decide +kernel
theorem dX1_computePostings_8 : decode cX1_computePostings 8 = .ok (.aload_n 0, 1) := by decide +kernel
theorem dX1_computePostings_9 : decode cX1_computePostings 9 = .ok (.getfield 18, 3) := by decide +kernel
theorem dX1_computePostings_12 : decode cX1_computePostings 12 = .ok (.iconst 1, 1) := by decide +kernel
theorem dX1_computePostings_13 : decode cX1_computePostings 13 = .ok (.isub, 1) := by decide +kernel
theorem dX1_computePostings_14 : decode cX1_computePostings 14 = .ok (.if_icmp .ge 36, 3) := by decide +kernel
theorem dX1_computePostings_17 : decode cX1_computePostings 17 = .ok (.aload_n 3, 1) := by decide +kernel
theorem dX1_computePostings_18 : decode cX1_computePostings 18 = .ok (.iload 6, 2) := by decide +kernel
theorem dX1_computePostings_20 : decode cX1_computePostings 20 = .ok (.lload_n 1, 1) := by decide +kernel
theorem dX1_computePostings_21 : decode cX1_computePostings 21 = .ok (.aload_n 0, 1) := by decide +kernel
theorem dX1_computePostings_22 : decode cX1_computePostings 22 = .ok (.getfield 15, 3) := by decide +kernel
theorem dX1_computePostings_25 : decode cX1_computePostings 25 = .ok (.iload 6, 2) := by decide +kernel
theorem dX1_computePostings_27 : decode cX1_computePostings 27 = .ok (.iaload, 1) := by decide +kernel
theorem dX1_computePostings_28 : decode cX1_computePostings 28 = .ok (.i2l, 1) := by decide +kernel
theorem dX1_computePostings_29 : decode cX1_computePostings 29 = .ok (.lmul, 1) := by decide +kernel
theorem dX1_computePostings_30 : decode cX1_computePostings 30 = .ok (.ldc2_w 29, 3) := by decide +kernel
theorem dX1_computePostings_33 : decode cX1_computePostings 33 = .ok (.ldiv, 1) := by decide +kernel
theorem dX1_computePostings_34 : decode cX1_computePostings 34 = .ok (.lastore, 1) := by decide +kernel
theorem dX1_computePostings_35 : decode cX1_computePostings 35 = .ok (.lload 4, 2) := by decide +kernel
theorem dX1_computePostings_37 : decode cX1_computePostings 37 = .ok (.aload_n 3, 1) := by decide +kernel
theorem dX1_computePostings_38 : decode cX1_computePostings 38 = .ok (.iload 6, 2) := by decide +kernel
theorem dX1_computePostings_40 : decode cX1_computePostings 40 = .ok (.laload, 1) := by decide +kernel
theorem dX1_computePostings_41 : decode cX1_computePostings 41 = .ok (.ladd, 1) := by decide +kernel
theorem dX1_computePostings_42 : decode cX1_computePostings 42 = .ok (.lstore 4, 2) := by decide +kernel
theorem dX1_computePostings_44 : decode cX1_computePostings 44 = .ok (.iinc 6 1, 3) := by decide +kernel
theorem dX1_computePostings_47 : decode cX1_computePostings 47 = .ok (.goto (-41), 3) := by decide +kernel
theorem dX1_computePostings_50 : decode cX1_computePostings 50 = .ok (.aload_n 3, 1) := by decide +kernel
theorem dX1_computePostings_51 : decode cX1_computePostings 51 = .ok (.aload_n 0, 1) := by decide +kernel
theorem dX1_computePostings_52 : decode cX1_computePostings 52 = .ok (.getfield 18, 3) := by decide +kernel
theorem dX1_computePostings_55 : decode cX1_computePostings 55 = .ok (.iconst 1, 1) := by decide +kernel
theorem dX1_computePostings_56 : decode cX1_computePostings 56 = .ok (.isub, 1) := by decide +kernel
theorem dX1_computePostings_57 : decode cX1_computePostings 57 = .ok (.lload 4, 2) := by decide +kernel
theorem dX1_computePostings_59 : decode cX1_computePostings 59 = .ok (.lneg, 1) := by decide +kernel
theorem dX1_computePostings_60 : decode cX1_computePostings 60 = .ok (.lastore, 1) := by decide +kernel
theorem dX1_computePostings_61 : decode cX1_computePostings 61 = .ok (.return_, 1) := by decide +kernel
theorem dX2_init_0 : decode cX2_init 0 = .ok (.aload_n 0, 1) := by decide +kernel
theorem dX2_init_1 : decode cX2_init 1 = .ok (.invokespecial 3, 3) := by decide +kernel
theorem dX2_init_4 : decode cX2_init 4 = .ok (.aload_n 0, 1) := by decide +kernel
theorem dX2_init_5 : decode cX2_init 5 = .ok (.iconst (-1), 1) := by decide +kernel
theorem dX2_init_6 : decode cX2_init 6 = .ok (.putfield 9, 3) := by decide +kernel
theorem dX2_init_9 : decode cX2_init 9 = .ok (.aload_n 0, 1) := by decide +kernel
theorem dX2_init_10 : decode cX2_init 10 = .ok (.iconst (-1), 1) := by decide +kernel
theorem dX2_init_11 : decode cX2_init 11 = .ok (.putfield 15, 3) := by decide +kernel
theorem dX2_init_14 : decode cX2_init 14 = .ok (.aload_n 0, 1) := by decide +kernel
theorem dX2_init_15 : decode cX2_init 15 = .ok (.lconst 0, 1) := by decide +kernel
theorem dX2_init_16 : decode cX2_init 16 = .ok (.putfield 18, 3) := by decide +kernel
theorem dX2_init_19 : decode cX2_init 19 = .ok (.return_, 1) := by decide +kernel
theorem dX2_isInUse_0 : decode cX2_isInUse 0 = .ok (.aload_n 0, 1) := by decide +kernel
theorem dX2_isInUse_1 : decode cX2_isInUse 1 = .ok (.getfield 9, 3) := by decide +kernel
theorem dX2_isInUse_4 : decode cX2_isInUse 4 = .ok (.iconst (-1), 1) := by decide +kernel
theorem dX2_isInUse_5 : decode cX2_isInUse 5 = .ok (.if_icmp .eq 7, 3) := by decide +kernel
theorem dX2_isInUse_8 : decode cX2_isInUse 8 = .ok (.iconst 1, 1) := by decide +kernel
theorem dX2_isInUse_9 : decode cX2_isInUse 9 = .ok (.goto 4, 3) := by decide +kernel
theorem dX2_isInUse_12 : decode cX2_isInUse 12 = .ok (.iconst 0, 1) := by decide +kernel
theorem dX2_isInUse_13 : decode cX2_isInUse 13 = .ok (.ireturn, 1) := by decide +kernel
theorem dX2_fill_0 : decode cX2_fill 0 = .ok (.aload_n 0, 1) := by decide +kernel
theorem dX2_fill_1 : decode cX2_fill 1 = .ok (.iload_n 1, 1) := by decide +kernel
theorem dX2_fill_2 : decode cX2_fill 2 = .ok (.putfield 9, 3) := by decide +kernel
theorem dX2_fill_5 : decode cX2_fill 5 = .ok (.aload_n 0, 1) := by decide +kernel
theorem dX2_fill_6 : decode cX2_fill 6 = .ok (.iload_n 2, 1) := by decide +kernel
theorem dX2_fill_7 : decode cX2_fill 7 = .ok (.putfield 15, 3) := by decide +kernel
theorem dX2_fill_10 : decode cX2_fill 10 = .ok (.aload_n 0, 1) := by decide +kernel
theorem dX2_fill_11 : decode cX2_fill 11 = .ok (.lload_n 3, 1) := by decide +kernel
theorem dX2_fill_12 : decode cX2_fill 12 = .ok (.putfield 18, 3) := by decide +kernel
theorem dX2_fill_15 : decode cX2_fill 15 = .ok (.return_, 1) := by decide +kernel
theorem dX2_clear_0 : decode cX2_clear 0 = .ok (.aload_n 0, 1) := by decide +kernel
theorem dX2_clear_1 : decode cX2_clear 1 = .ok (.iconst (-1), 1) := by decide +kernel
theorem dX2_clear_2 : decode cX2_clear 2 = .ok (.putfield 9, 3) := by decide +kernel
theorem dX2_clear_5 : decode cX2_clear 5 = .ok (.return_, 1) := by decide +kernel
theorem dX3_init_0 : decode cX3_init 0 = .ok (.aload_n 0, 1) := by decide +kernel
theorem dX3_init_1 : decode cX3_init 1 = .ok (.invokespecial 1, 3) := by decide +kernel
theorem dX3_init_4 : decode cX3_init 4 = .ok (.aload_n 0, 1) := by decide +kernel
theorem dX3_init_5 : decode cX3_init 5 = .ok (.bipush 8, 2) := by decide +kernel
theorem dX3_init_7 : decode cX3_init 7 = .ok (.newarray .long, 2) := by decide +kernel
theorem dX3_init_9 : decode cX3_init 9 = .ok (.putfield 9, 3) := by decide +kernel
theorem dX3_init_12 : decode cX3_init 12 = .ok (.aload_n 0, 1) := by decide +kernel
theorem dX3_init_13 : decode cX3_init 13 = .ok (.bipush 8, 2) := by decide +kernel
theorem dX3_init_15 : decode cX3_init 15 = .ok (.newarray .long, 2) := by decide +kernel
theorem dX3_init_17 : decode cX3_init 17 = .ok (.putfield 13, 3) := by decide +kernel
theorem dX3_init_20 : decode cX3_init 20 = .ok (.aload_n 0, 1) := by decide +kernel
theorem dX3_init_21 : decode cX3_init 21 = .ok (.bipush 10, 2) := by decide +kernel
theorem dX3_init_23 : decode cX3_init 23 = .ok (.anewarray 16, 3) := by decide +kernel
theorem dX3_init_26 : decode cX3_init 26 = .ok (.putfield 18, 3) := by decide +kernel
theorem dX3_init_29 : decode cX3_init 29 = .ok (.aload_n 0, 1) := by decide +kernel
theorem dX3_init_30 : decode cX3_init 30 = .ok (.iconst 0, 1) := by decide +kernel
theorem dX3_init_31 : decode cX3_init 31 = .ok (.putfield 22, 3) := by decide +kernel
theorem dX3_init_34 : decode cX3_init 34 = .ok (.aload_n 0, 1) := by decide +kernel
theorem dX3_init_35 : decode cX3_init 35 = .ok (.bipush 6, 2) := by decide +kernel
theorem dX3_init_37 : decode cX3_init 37 = .ok (.anewarray 26, 3) := by decide +kernel
theorem dX3_init_40 : decode cX3_init 40 = .ok (.putfield 28, 3) := by decide +kernel
theorem dX3_init_43 : decode cX3_init 43 = .ok (.aload_n 0, 1) := by decide +kernel
theorem dX3_init_44 : decode cX3_init 44 = .ok (.bipush 40, 2) := by decide +kernel
theorem dX3_init_46 : decode cX3_init 46 = .ok (.anewarray 32, 3) := by decide +kernel
theorem dX3_init_49 : decode cX3_init 49 = .ok (.putfield 34, 3) := by decide +kernel
theorem dX3_init_52 : decode cX3_init 52 = .ok (.aload_n 0, 1) := by decide +kernel
theorem dX3_init_53 : decode cX3_init 53 = .ok (.iconst 0, 1) := by decide +kernel
theorem dX3_init_54 : decode cX3_init 54 = .ok (.putfield 38, 3) := by decide +kernel
theorem dX3_init_57 : decode cX3_init 57 = .ok (.aload_n 0, 1) := by decide +kernel
theorem dX3_init_58 : decode cX3_init 58 = .ok (.bipush 41, 2) := by decide +kernel
theorem dX3_init_60 : decode cX3_init 60 = .ok (.bipush 8, 2) := by decide +kernel
theorem dX3_init_62 : decode cX3_init 62 = .ok (.multianewarray 41 2, 4) := by decide +kernel
theorem dX3_init_66 : decode cX3_init 66 = .ok (.putfield 43, 3) := by decide +kernel
theorem dX3_init_69 : decode cX3_init 69 = .ok (.aload_n 0, 1) := by decide +kernel
theorem dX3_init_70 : decode cX3_init 70 = .ok (.iconst 4, 1) := by decide +kernel
theorem dX3_init_71 : decode cX3_init 71 = .ok (.newarray .long, 2) := by decide +kernel
theorem dX3_init_73 : decode cX3_init 73 = .ok (.putfield 46, 3) := by decide +kernel
theorem dX3_init_76 : decode cX3_init 76 = .ok (.iconst 0, 1) := by decide +kernel
theorem dX3_init_77 : decode cX3_init 77 = .ok (.istore_n 1, 1) := by decide +kernel
theorem dX3_init_78 : decode cX3_init 78 = .ok (.iload_n 1, 1) := by decide +kernel
theorem dX3_init_79 : decode cX3_init 79 = .ok (.bipush 8, 2) := by decide +kernel
theorem dX3_init_81 : decode cX3_init 81 = .ok (.if_icmp .ge 18, 3) := by decide +kernel
theorem dX3_init_84 : decode cX3_init 84 = .ok (.aload_n 0, 1) := by decide +kernel
theorem dX3_init_85 : decode cX3_init 85 = .ok (.getfield 13, 3) := by decide +kernel
theorem dX3_init_88 : decode cX3_init 88 = .ok (.iload_n 1, 1) := by decide +kernel
theorem dX3_init_89 : decode cX3_init 89 = .ok (.ldc2_w 49, 3) := by decide +kernel
theorem dX3_init_92 : decode cX3_init 92 = .ok (.lastore, 1) := by decide +kernel
theorem dX3_init_93 : decode cX3_init 93 = .ok (.iinc 1 1, 3) := by decide +kernel
theorem dX3_init_96 : decode cX3_init 96 = .ok (.goto (-18), 3) := by decide +kernel
theorem dX3_init_99 : decode cX3_init 99 = .ok (.iconst 0, 1) := by decide +kernel
theorem dX3_init_100 : decode cX3_init 100 = .ok (.istore_n 1, 1) := by decide +kernel
theorem dX3_init_101 : decode cX3_init 101 = .ok (.iload_n 1, 1) := by decide +kernel
theorem dX3_init_102 : decode cX3_init 102 = .ok (.bipush 10, 2) := by decide +kernel
theorem dX3_init_104 : decode cX3_init 104 = .ok (.if_icmp .ge 22, 3) := by decide +kernel
theorem dX3_init_107 : decode cX3_init 107 = .ok (.aload_n 0, 1) := by decide +kernel
theorem dX3_init_108 : decode cX3_init 108 = .ok (.getfield 18, 3) := by decide +kernel
theorem dX3_init_111 : decode cX3_init 111 = .ok (.iload_n 1, 1) := by decide +kernel
theorem dX3_init_112 : decode cX3_init 112 = .ok (.new 16, 3) := by decide +kernel
theorem dX3_init_115 : decode cX3_init 115 = .ok (.dup, 1) := by decide +kernel
theorem dX3_init_116 : decode cX3_init 116 = .ok (.invokespecial 51, 3) := by decide +kernel
theorem dX3_init_119 : decode cX3_init 119 = .ok (.aastore, 1) := by decide +kernel
theorem dX3_init_120 : decode cX3_init 120 = .ok (.iinc 1 1, 3) := by decide +kernel
theorem dX3_init_123 : decode cX3_init 123 = .ok (.goto (-22), 3) := by decide +kernel
theorem dX3_init_126 : decode cX3_init 126 = .ok (.iconst 0, 1) := by decide +kernel
theorem dX3_init_127 : decode cX3_init 127 = .ok (.istore_n 1, 1) := by decide +kernel
theorem dX3_init_128 : decode cX3_init 128 = .ok (.iload_n 1, 1) := by decide +kernel
theorem dX3_init_129 : decode cX3_init 129 = .ok (.bipush 6, 2) := by decide +kernel
theorem dX3_init_131 : decode cX3_init 131 = .ok (.if_icmp .ge 22, 3) := by decide +kernel
theorem dX3_init_134 : decode cX3_init 134 = .ok (.aload_n 0, 1) := by decide +kernel
theorem dX3_init_135 : decode cX3_init 135 = .ok (.getfield 28, 3) := by decide +kernel
theorem dX3_init_138 : decode cX3_init 138 = .ok (.iload_n 1, 1) := by decide +kernel
theorem dX3_init_139 : decode cX3_init 139 = .ok (.new 26, 3) := by decide +kernel
theorem dX3_init_142 : decode cX3_init 142 = .ok (.dup, 1) := by decide +kernel
theorem dX3_init_143 : decode cX3_init 143 = .ok (.invokespecial 52, 3) := by decide +kernel
theorem dX3_init_146 : decode cX3_init 146 = .ok (.aastore, 1) := by decide +kernel
theorem dX3_init_147 : decode cX3_init 147 = .ok (.iinc 1 1, 3) := by decide +kernel
theorem dX3_init_150 : decode cX3_init 150 = .ok (.goto (-22), 3) := by decide +kernel
theorem dX3_init_153 : decode cX3_init 153 = .ok (.iconst 0, 1) := by decide +kernel
theorem dX3_init_154 : decode cX3_init 154 = .ok (.istore_n 1, 1) := by decide +kernel
theorem dX3_init_155 : decode cX3_init 155 = .ok (.iload_n 1, 1) := by decide +kernel
theorem dX3_init_156 : decode cX3_init 156 = .ok (.bipush 40, 2) := by decide +kernel
theorem dX3_init_158 : decode cX3_init 158 = .ok (.if_icmp .ge 22, 3) := by decide +kernel
theorem dX3_init_161 : decode cX3_init 161 = .ok (.aload_n 0, 1) := by decide +kernel
theorem dX3_init_162 : decode cX3_init 162 = .ok (.getfield 34, 3) := by decide +kernel
theorem dX3_init_165 : decode cX3_init 165 = .ok (.iload_n 1, 1) := by decide +kernel
theorem dX3_init_166 : decode cX3_init 166 = .ok (.new 32, 3) := by decide +kernel
theorem dX3_init_169 : decode cX3_init 169 = .ok (.dup, 1) := by decide +kernel
theorem dX3_init_170 : decode cX3_init 170 = .ok (.invokespecial 53, 3) := by decide +kernel
theorem dX3_init_173 : decode cX3_init 173 = .ok (.aastore, 1) := by decide +kernel
theorem dX3_init_174 : decode cX3_init 174 = .ok (.iinc 1 1, 3) := by decide +kernel
theorem dX3_init_177 : decode cX3_init 177 = .ok (.goto (-22), 3) := by decide +kernel
theorem dX3_init_180 : decode cX3_init 180 = .ok (.return_, 1) := by decide +kernel
theorem dX3_draw_0 : decode cX3_draw 0 = .ok (.iload_n 1, 1) := by decide +kernel
theorem dX3_draw_1 : decode cX3_draw 1 = .ok (.invokestatic 54, 3) := by decide +kernel
theorem dX3_draw_4 : decode cX3_draw 4 = .ok (.iload_n 2, 1) := by decide +kernel
theorem dX3_draw_5 : decode cX3_draw 5 = .ok (.invokestatic 58, 3) := by decide +kernel
theorem dX3_draw_8 : decode cX3_draw 8 = .ok (.aload_n 0, 1) := by decide +kernel
theorem dX3_draw_9 : decode cX3_draw 9 = .ok (.getfield 22, 3) := by decide +kernel
theorem dX3_draw_12 : decode cX3_draw 12 = .ok (.bipush 10, 2) := by decide +kernel
theorem dX3_draw_14 : decode cX3_draw 14 = .ok (.if_icmp .lt 13, 3) := by decide +kernel
theorem dX3_draw_17 : decode cX3_draw 17 = .ok (.new 61, 3) := by decide +kernel
theorem dX3_draw_20 : decode cX3_draw 20 = .ok (.dup, 1) := by decide +kernel
theorem dX3_draw_21 : decode cX3_draw 21 = .ok (.ldc 63, 2) := by decide +kernel
theorem dX3_draw_23 : decode cX3_draw 23 = .ok (.invokespecial 65, 3) := by decide +kernel
theorem dX3_draw_26 : decode cX3_draw 26 = .ok (.athrow, 1) := by decide +kernel
theorem dX3_draw_27 : decode cX3_draw 27 = .ok (.aload_n 0, 1) := by decide +kernel
theorem dX3_draw_28 : decode cX3_draw 28 = .ok (.getfield 22, 3) := by decide +kernel
theorem dX3_draw_31 : decode cX3_draw 31 = .ok (.istore_n 3, 1) := by decide +kernel
theorem dX3_draw_32 : decode cX3_draw 32 = .ok (.aload_n 0, 1) := by decide +kernel
theorem dX3_draw_33 : decode cX3_draw 33 = .ok (.getfield 18, 3) := by decide +kernel
theorem dX3_draw_36 : decode cX3_draw 36 = .ok (.iload_n 3, 1) := by decide +kernel
theorem dX3_draw_37 : decode cX3_draw 37 = .ok (.aaload, 1) := by decide +kernel
theorem dX3_draw_38 : decode cX3_draw 38 = .ok (.iload_n 1, 1) := by decide +kernel
theorem dX3_draw_39 : decode cX3_draw 39 = .ok (.iload_n 2, 1) := by decide +kernel
theorem dX3_draw_40 : decode cX3_draw 40 = .ok (.invokevirtual 68, 3) := by decide +kernel
theorem dX3_draw_43 : decode cX3_draw 43 = .ok (.aload_n 0, 1) := by decide +kernel
theorem dX3_draw_44 : decode cX3_draw 44 = .ok (.dup, 1) := by decide +kernel
theorem dX3_draw_45 : decode cX3_draw 45 = .ok (.getfield 22, 3) := by decide +kernel
theorem dX3_draw_48 : decode cX3_draw 48 = .ok (.iconst 1, 1) := by decide +kernel
theorem dX3_draw_49 : decode cX3_draw 49 = .ok (.iadd, 1) := by decide +kernel
theorem dX3_draw_50 : decode cX3_draw 50 = .ok (.putfield 22, 3) := by decide +kernel
theorem dX3_draw_53 : decode cX3_draw 53 = .ok (.iload_n 3, 1) := by decide +kernel
theorem dX3_draw_54 : decode cX3_draw 54 = .ok (.ireturn, 1) := by decide +kernel
theorem dX3_add_0 : decode cX3_add 0 = .ok (.aload_n 0, 1) := by decide +kernel
theorem dX3_add_1 : decode cX3_add 1 = .ok (.iload_n 1, 1) := by decide +kernel
theorem dX3_add_2 : decode cX3_add 2 = .ok (.invokevirtual 72, 3) := by decide +kernel
theorem dX3_add_5 : decode cX3_add 5 = .ok (.iload_n 2, 1) := by decide +kernel
theorem dX3_add_6 : decode cX3_add 6 = .ok (.invokestatic 54, 3) := by decide +kernel
theorem dX3_add_9 : decode cX3_add 9 = .ok (.iload_n 3, 1) := by decide +kernel
theorem dX3_add_10 : decode cX3_add 10 = .ok (.invokestatic 58, 3) := by decide +kernel
theorem dX3_add_13 : decode cX3_add 13 = .ok (.aload_n 0, 1) := by decide +kernel
theorem dX3_add_14 : decode cX3_add 14 = .ok (.getfield 18, 3) := by decide +kernel
theorem dX3_add_17 : decode cX3_add 17 = .ok (.iload_n 1, 1) := by decide +kernel
theorem dX3_add_18 : decode cX3_add 18 = .ok (.aaload, 1) := by decide +kernel
theorem dX3_add_19 : decode cX3_add 19 = .ok (.astore 4, 2) := by decide +kernel
theorem dX3_add_21 : decode cX3_add 21 = .ok (.aload 4, 2) := by decide +kernel
theorem dX3_add_23 : decode cX3_add 23 = .ok (.iload_n 2, 1) := by decide +kernel
theorem dX3_add_24 : decode cX3_add 24 = .ok (.invokevirtual 75, 3) := by decide +kernel
theorem dX3_add_27 : decode cX3_add 27 = .ok (.ifCond .eq 13, 3) := by decide +kernel
theorem dX3_add_30 : decode cX3_add 30 = .ok (.new 79, 3) := by decide +kernel
theorem dX3_add_33 : decode cX3_add 33 = .ok (.dup, 1) := by decide +kernel
theorem dX3_add_34 : decode cX3_add 34 = .ok (.ldc 81, 2) := by decide +kernel
theorem dX3_add_36 : decode cX3_add 36 = .ok (.invokespecial 83, 3) := by decide +kernel
theorem dX3_add_39 : decode cX3_add 39 = .ok (.athrow, 1) := by decide +kernel
theorem dX3_add_40 : decode cX3_add 40 = .ok (.aload 4, 2) := by decide +kernel
theorem dX3_add_42 : decode cX3_add 42 = .ok (.invokevirtual 84, 3) := by decide +kernel
theorem dX3_add_45 : decode cX3_add 45 = .ok (.ifCond .ne 12, 3) := by decide +kernel
theorem dX3_add_48 : decode cX3_add 48 = .ok (.aload 4, 2) := by decide +kernel
theorem dX3_add_50 : decode cX3_add 50 = .ok (.getfield 88, 3) := by decide +kernel
theorem dX3_add_53 : decode cX3_add 53 = .ok (.iconst 4, 1) := by decide +kernel
theorem dX3_add_54 : decode cX3_add 54 = .ok (.if_icmp .lt 13, 3) := by decide +kernel
theorem dX3_add_57 : decode cX3_add 57 = .ok (.new 61, 3) := by decide +kernel
theorem dX3_add_60 : decode cX3_add 60 = .ok (.dup, 1) := by decide +kernel
theorem dX3_add_61 : decode cX3_add 61 = .ok (.ldc 91, 2) := by decide +kernel
theorem dX3_add_63 : decode cX3_add 63 = .ok (.invokespecial 65, 3) := by decide +kernel
theorem dX3_add_66 : decode cX3_add 66 = .ok (.athrow, 1) := by decide +kernel
theorem dX3_add_67 : decode cX3_add 67 = .ok (.aload 4, 2) := by decide +kernel
theorem dX3_add_69 : decode cX3_add 69 = .ok (.iload_n 2, 1) := by decide +kernel
theorem dX3_add_70 : decode cX3_add 70 = .ok (.iload_n 3, 1) := by decide +kernel
theorem dX3_add_71 : decode cX3_add 71 = .ok (.invokevirtual 68, 3) := by decide +kernel
theorem dX3_add_74 : decode cX3_add 74 = .ok (.aload 4, 2) := by decide +kernel
theorem dX3_add_76 : decode cX3_add 76 = .ok (.getfield 88, 3) := by decide +kernel
theorem dX3_add_79 : decode cX3_add 79 = .ok (.ireturn, 1) := by decide +kernel
theorem dX3_certify_0 : decode cX3_certify 0 = .ok (.iload_n 1, 1) := by decide +kernel
theorem dX3_certify_1 : decode cX3_certify 1 = .ok (.invokestatic 93, 3) := by decide +kernel
theorem dX3_certify_4 : decode cX3_certify 4 = .ok (.aload_n 0, 1) := by decide +kernel
theorem dX3_certify_5 : decode cX3_certify 5 = .ok (.iload_n 2, 1) := by decide +kernel
theorem dX3_certify_6 : decode cX3_certify 6 = .ok (.invokevirtual 72, 3) := by decide +kernel
theorem dX3_certify_9 : decode cX3_certify 9 = .ok (.iload_n 1, 1) := by decide +kernel
theorem dX3_certify_10 : decode cX3_certify 10 = .ok (.invokestatic 96, 3) := by decide +kernel
theorem dX3_certify_13 : decode cX3_certify 13 = .ok (.aload_n 0, 1) := by decide +kernel
theorem dX3_certify_14 : decode cX3_certify 14 = .ok (.getfield 18, 3) := by decide +kernel
theorem dX3_certify_17 : decode cX3_certify 17 = .ok (.iload_n 2, 1) := by decide +kernel
theorem dX3_certify_18 : decode cX3_certify 18 = .ok (.aaload, 1) := by decide +kernel
theorem dX3_certify_19 : decode cX3_certify 19 = .ok (.astore_n 3, 1) := by decide +kernel
theorem dX3_certify_20 : decode cX3_certify 20 = .ok (.aload_n 3, 1) := by decide +kernel
theorem dX3_certify_21 : decode cX3_certify 21 = .ok (.invokevirtual 84, 3) := by decide +kernel
theorem dX3_certify_24 : decode cX3_certify 24 = .ok (.ifCond .ne 18, 3) := by decide +kernel
theorem dX3_certify_27 : decode cX3_certify 27 = .ok (.aload_n 3, 1) := by decide +kernel
theorem dX3_certify_28 : decode cX3_certify 28 = .ok (.getfield 88, 3) := by decide +kernel
theorem dX3_certify_31 : decode cX3_certify 31 = .ok (.iconst 2, 1) := by decide +kernel
theorem dX3_certify_32 : decode cX3_certify 32 = .ok (.if_icmp .lt 10, 3) := by decide +kernel
theorem dX3_certify_35 : decode cX3_certify 35 = .ok (.aload_n 3, 1) := by decide +kernel
theorem dX3_certify_36 : decode cX3_certify 36 = .ok (.invokevirtual 99, 3) := by decide +kernel
theorem dX3_certify_39 : decode cX3_certify 39 = .ok (.ifCond .eq 13, 3) := by decide +kernel
theorem dX3_certify_42 : decode cX3_certify 42 = .ok (.new 61, 3) := by decide +kernel
theorem dX3_certify_45 : decode cX3_certify 45 = .ok (.dup, 1) := by decide +kernel
theorem dX3_certify_46 : decode cX3_certify 46 = .ok (.ldc 103, 2) := by decide +kernel
theorem dX3_certify_48 : decode cX3_certify 48 = .ok (.invokespecial 65, 3) := by decide +kernel
theorem dX3_certify_51 : decode cX3_certify 51 = .ok (.athrow, 1) := by decide +kernel
theorem dX3_certify_52 : decode cX3_certify 52 = .ok (.aload_n 3, 1) := by decide +kernel
theorem dX3_certify_53 : decode cX3_certify 53 = .ok (.iload_n 1, 1) := by decide +kernel
theorem dX3_certify_54 : decode cX3_certify 54 = .ok (.putfield 105, 3) := by decide +kernel
theorem dX3_certify_57 : decode cX3_certify 57 = .ok (.return_, 1) := by decide +kernel
theorem dX3_grant_0 : decode cX3_grant 0 = .ok (.iload_n 1, 1) := by decide +kernel
theorem dX3_grant_1 : decode cX3_grant 1 = .ok (.invokestatic 93, 3) := by decide +kernel
theorem dX3_grant_4 : decode cX3_grant 4 = .ok (.iload_n 2, 1) := by decide +kernel
theorem dX3_grant_5 : decode cX3_grant 5 = .ok (.invokestatic 93, 3) := by decide +kernel
theorem dX3_grant_8 : decode cX3_grant 8 = .ok (.aload_n 0, 1) := by decide +kernel
theorem dX3_grant_9 : decode cX3_grant 9 = .ok (.iload_n 3, 1) := by decide +kernel
theorem dX3_grant_10 : decode cX3_grant 10 = .ok (.invokevirtual 72, 3) := by decide +kernel
theorem dX3_grant_13 : decode cX3_grant 13 = .ok (.iload_n 1, 1) := by decide +kernel
theorem dX3_grant_14 : decode cX3_grant 14 = .ok (.invokestatic 96, 3) := by decide +kernel
theorem dX3_grant_17 : decode cX3_grant 17 = .ok (.iload_n 1, 1) := by decide +kernel
theorem dX3_grant_18 : decode cX3_grant 18 = .ok (.iload_n 2, 1) := by decide +kernel
theorem dX3_grant_19 : decode cX3_grant 19 = .ok (.if_icmp .ne 13, 3) := by decide +kernel
theorem dX3_grant_22 : decode cX3_grant 22 = .ok (.new 108, 3) := by decide +kernel
theorem dX3_grant_25 : decode cX3_grant 25 = .ok (.dup, 1) := by decide +kernel
theorem dX3_grant_26 : decode cX3_grant 26 = .ok (.ldc 110, 2) := by decide +kernel
theorem dX3_grant_28 : decode cX3_grant 28 = .ok (.invokespecial 112, 3) := by decide +kernel
theorem dX3_grant_31 : decode cX3_grant 31 = .ok (.athrow, 1) := by decide +kernel
theorem dX3_grant_32 : decode cX3_grant 32 = .ok (.aload_n 0, 1) := by decide +kernel
theorem dX3_grant_33 : decode cX3_grant 33 = .ok (.getfield 18, 3) := by decide +kernel
theorem dX3_grant_36 : decode cX3_grant 36 = .ok (.iload_n 3, 1) := by decide +kernel
theorem dX3_grant_37 : decode cX3_grant 37 = .ok (.aaload, 1) := by decide +kernel
theorem dX3_grant_38 : decode cX3_grant 38 = .ok (.astore 5, 2) := by decide +kernel
theorem dX3_grant_40 : decode cX3_grant 40 = .ok (.aload 5, 2) := by decide +kernel
theorem dX3_grant_42 : decode cX3_grant 42 = .ok (.getfield 113, 3) := by decide +kernel
theorem dX3_grant_45 : decode cX3_grant 45 = .ok (.iload_n 2, 1) := by decide +kernel
theorem dX3_grant_46 : decode cX3_grant 46 = .ok (.baload, 1) := by decide +kernel
theorem dX3_grant_47 : decode cX3_grant 47 = .ok (.iload 4, 2) := by decide +kernel
theorem dX3_grant_49 : decode cX3_grant 49 = .ok (.if_icmp .eq 7, 3) := by decide +kernel
theorem dX3_grant_52 : decode cX3_grant 52 = .ok (.iconst 1, 1) := by decide +kernel
theorem dX3_grant_53 : decode cX3_grant 53 = .ok (.goto 4, 3) := by decide +kernel
theorem dX3_grant_56 : decode cX3_grant 56 = .ok (.iconst 0, 1) := by decide +kernel
theorem dX3_grant_57 : decode cX3_grant 57 = .ok (.istore 6, 2) := by decide +kernel
theorem dX3_grant_59 : decode cX3_grant 59 = .ok (.aload 5, 2) := by decide +kernel
theorem dX3_grant_61 : decode cX3_grant 61 = .ok (.getfield 113, 3) := by decide +kernel
theorem dX3_grant_64 : decode cX3_grant 64 = .ok (.iload_n 2, 1) := by decide +kernel
theorem dX3_grant_65 : decode cX3_grant 65 = .ok (.iload 4, 2) := by decide +kernel
theorem dX3_grant_67 : decode cX3_grant 67 = .ok (.bastore, 1) := by decide +kernel
theorem dX3_grant_68 : decode cX3_grant 68 = .ok (.iload 6, 2) := by decide +kernel
theorem dX3_grant_70 : decode cX3_grant 70 = .ok (.ireturn, 1) := by decide +kernel
theorem dX3_floor_0 : decode cX3_floor 0 = .ok (.iload_n 1, 1) := by decide +kernel
theorem dX3_floor_1 : decode cX3_floor 1 = .ok (.invokestatic 93, 3) := by decide +kernel
theorem dX3_floor_4 : decode cX3_floor 4 = .ok (.iload_n 2, 1) := by decide +kernel
theorem dX3_floor_5 : decode cX3_floor 5 = .ok (.invokestatic 54, 3) := by decide +kernel
theorem dX3_floor_8 : decode cX3_floor 8 = .ok (.iload_n 1, 1) := by decide +kernel
theorem dX3_floor_9 : decode cX3_floor 9 = .ok (.invokestatic 96, 3) := by decide +kernel
theorem dX3_floor_12 : decode cX3_floor 12 = .ok (.lload_n 3, 1) := by decide +kernel
theorem dX3_floor_13 : decode cX3_floor 13 = .ok (.invokestatic 117, 3) := by decide +kernel
theorem dX3_floor_16 : decode cX3_floor 16 = .ok (.ifCond .eq 13, 3) := by decide +kernel
theorem dX3_floor_19 : decode cX3_floor 19 = .ok (.new 79, 3) := by decide +kernel
theorem dX3_floor_22 : decode cX3_floor 22 = .ok (.dup, 1) := by decide +kernel
theorem dX3_floor_23 : decode cX3_floor 23 = .ok (.ldc 121, 2) := by decide +kernel
theorem dX3_floor_25 : decode cX3_floor 25 = .ok (.invokespecial 83, 3) := by decide +kernel
theorem dX3_floor_28 : decode cX3_floor 28 = .ok (.athrow, 1) := by decide +kernel
theorem dX3_floor_29 : decode cX3_floor 29 = .ok (.aload_n 0, 1) := by decide +kernel
theorem dX3_floor_30 : decode cX3_floor 30 = .ok (.getfield 13, 3) := by decide +kernel
theorem dX3_floor_33 : decode cX3_floor 33 = .ok (.iload_n 2, 1) := by decide +kernel
theorem dX3_floor_34 : decode cX3_floor 34 = .ok (.laload, 1) := by decide +kernel
theorem dX3_floor_35 : decode cX3_floor 35 = .ok (.lstore 5, 2) := by decide +kernel
theorem dX3_floor_37 : decode cX3_floor 37 = .ok (.aload_n 0, 1) := by decide +kernel
theorem dX3_floor_38 : decode cX3_floor 38 = .ok (.getfield 13, 3) := by decide +kernel
theorem dX3_floor_41 : decode cX3_floor 41 = .ok (.iload_n 2, 1) := by decide +kernel
theorem dX3_floor_42 : decode cX3_floor 42 = .ok (.lload_n 3, 1) := by decide +kernel
theorem dX3_floor_43 : decode cX3_floor 43 = .ok (.lastore, 1) := by decide +kernel
theorem dX3_floor_44 : decode cX3_floor 44 = .ok (.lload 5, 2) := by decide +kernel
theorem dX3_floor_46 : decode cX3_floor 46 = .ok (.lreturn, 1) := by decide +kernel
theorem dX3_ask_0 : decode cX3_ask 0 = .ok (.iload_n 1, 1) := by decide +kernel
theorem dX3_ask_1 : decode cX3_ask 1 = .ok (.invokestatic 93, 3) := by decide +kernel
theorem dX3_ask_4 : decode cX3_ask 4 = .ok (.aload_n 0, 1) := by decide +kernel
theorem dX3_ask_5 : decode cX3_ask 5 = .ok (.iload_n 2, 1) := by decide +kernel
theorem dX3_ask_6 : decode cX3_ask 6 = .ok (.invokevirtual 72, 3) := by decide +kernel
theorem dX3_ask_9 : decode cX3_ask 9 = .ok (.aload_n 0, 1) := by decide +kernel
theorem dX3_ask_10 : decode cX3_ask 10 = .ok (.iload_n 1, 1) := by decide +kernel
theorem dX3_ask_11 : decode cX3_ask 11 = .ok (.iload_n 2, 1) := by decide +kernel
theorem dX3_ask_12 : decode cX3_ask 12 = .ok (.invokevirtual 123, 3) := by decide +kernel
theorem dX3_ask_15 : decode cX3_ask 15 = .ok (.lload_n 3, 1) := by decide +kernel
theorem dX3_ask_16 : decode cX3_ask 16 = .ok (.lconst 1, 1) := by decide +kernel
theorem dX3_ask_17 : decode cX3_ask 17 = .ok (.lcmp, 1) := by decide +kernel
theorem dX3_ask_18 : decode cX3_ask 18 = .ok (.ifCond .lt 11, 3) := by decide +kernel
theorem dX3_ask_21 : decode cX3_ask 21 = .ok (.lload_n 3, 1) := by decide +kernel
theorem dX3_ask_22 : decode cX3_ask 22 = .ok (.ldc2_w 126, 3) := by decide +kernel
theorem dX3_ask_25 : decode cX3_ask 25 = .ok (.lcmp, 1) := by decide +kernel
theorem dX3_ask_26 : decode cX3_ask 26 = .ok (.ifCond .le 13, 3) := by decide +kernel
theorem dX3_ask_29 : decode cX3_ask 29 = .ok (.new 79, 3) := by decide +kernel
theorem dX3_ask_32 : decode cX3_ask 32 = .ok (.dup, 1) := by decide +kernel
theorem dX3_ask_33 : decode cX3_ask 33 = .ok (.ldc 128, 2) := by decide +kernel
theorem dX3_ask_35 : decode cX3_ask 35 = .ok (.invokespecial 83, 3) := by decide +kernel
theorem dX3_ask_38 : decode cX3_ask 38 = .ok (.athrow, 1) := by decide +kernel
theorem dX3_ask_39 : decode cX3_ask 39 = .ok (.aload_n 0, 1) := by decide +kernel
theorem dX3_ask_40 : decode cX3_ask 40 = .ok (.invokevirtual 130, 3) := by decide +kernel
theorem dX3_ask_43 : decode cX3_ask 43 = .ok (.lload_n 3, 1) := by decide +kernel
theorem dX3_ask_44 : decode cX3_ask 44 = .ok (.ldc2_w 133, 3) := by decide +kernel
theorem dX3_ask_47 : decode cX3_ask 47 = .ok (.lcmp, 1) := by decide +kernel
theorem dX3_ask_48 : decode cX3_ask 48 = .ok (.ifCond .le 14, 3) := by decide +kernel
theorem dX3_ask_51 : decode cX3_ask 51 = .ok (.bipush 100, 2) := by decide +kernel
theorem dX3_ask_53 : decode cX3_ask 53 = .ok (.aload_n 0, 1) := by decide +kernel
theorem dX3_ask_54 : decode cX3_ask 54 = .ok (.iload_n 1, 1) := by decide +kernel
theorem dX3_ask_55 : decode cX3_ask 55 = .ok (.iload_n 2, 1) := by decide +kernel
theorem dX3_ask_56 : decode cX3_ask 56 = .ok (.lload_n 3, 1) := by decide +kernel
theorem dX3_ask_57 : decode cX3_ask 57 = .ok (.invokevirtual 135, 3) := by decide +kernel
theorem dX3_ask_60 : decode cX3_ask 60 = .ok (.iadd, 1) := by decide +kernel
theorem dX3_ask_61 : decode cX3_ask 61 = .ok (.ireturn, 1) := by decide +kernel
theorem dX3_ask_62 : decode cX3_ask 62 = .ok (.aload_n 0, 1) := by decide +kernel
theorem dX3_ask_63 : decode cX3_ask 63 = .ok (.iload_n 2, 1) := by decide +kernel
theorem dX3_ask_64 : decode cX3_ask 64 = .ok (.lload_n 3, 1) := by decide +kernel
theorem dX3_ask_65 : decode cX3_ask 65 = .ok (.iload_n 1, 1) := by decide +kernel
theorem dX3_ask_66 : decode cX3_ask 66 = .ok (.iconst (-1), 1) := by decide +kernel
theorem dX3_ask_67 : decode cX3_ask 67 = .ok (.iconst (-1), 1) := by decide +kernel
theorem dX3_ask_68 : decode cX3_ask 68 = .ok (.invokevirtual 139, 3) := by decide +kernel
theorem dX3_ask_71 : decode cX3_ask 71 = .ok (.ireturn, 1) := by decide +kernel
theorem dX3_approve_0 : decode cX3_approve 0 = .ok (.iload_n 1, 1) := by decide +kernel
theorem dX3_approve_1 : decode cX3_approve 1 = .ok (.invokestatic 93, 3) := by decide +kernel
theorem dX3_approve_4 : decode cX3_approve 4 = .ok (.aload_n 0, 1) := by decide +kernel
theorem dX3_approve_5 : decode cX3_approve 5 = .ok (.iload_n 2, 1) := by decide +kernel
theorem dX3_approve_6 : decode cX3_approve 6 = .ok (.invokevirtual 143, 3) := by decide +kernel
theorem dX3_approve_9 : decode cX3_approve 9 = .ok (.aload_n 0, 1) := by decide +kernel
theorem dX3_approve_10 : decode cX3_approve 10 = .ok (.getfield 28, 3) := by decide +kernel
theorem dX3_approve_13 : decode cX3_approve 13 = .ok (.iload_n 2, 1) := by decide +kernel
theorem dX3_approve_14 : decode cX3_approve 14 = .ok (.aaload, 1) := by decide +kernel
theorem dX3_approve_15 : decode cX3_approve 15 = .ok (.astore_n 3, 1) := by decide +kernel
theorem dX3_approve_16 : decode cX3_approve 16 = .ok (.aload_n 0, 1) := by decide +kernel
theorem dX3_approve_17 : decode cX3_approve 17 = .ok (.iload_n 1, 1) := by decide +kernel
theorem dX3_approve_18 : decode cX3_approve 18 = .ok (.aload_n 3, 1) := by decide +kernel
theorem dX3_approve_19 : decode cX3_approve 19 = .ok (.invokevirtual 146, 3) := by decide +kernel
theorem dX3_approve_22 : decode cX3_approve 22 = .ok (.ifCond .ne 13, 3) := by decide +kernel
theorem dX3_approve_25 : decode cX3_approve 25 = .ok (.new 108, 3) := by decide +kernel
theorem dX3_approve_28 : decode cX3_approve 28 = .ok (.dup, 1) := by decide +kernel
theorem dX3_approve_29 : decode cX3_approve 29 = .ok (.ldc 150, 2) := by decide +kernel
theorem dX3_approve_31 : decode cX3_approve 31 = .ok (.invokespecial 112, 3) := by decide +kernel
theorem dX3_approve_34 : decode cX3_approve 34 = .ok (.athrow, 1) := by decide +kernel
theorem dX3_approve_35 : decode cX3_approve 35 = .ok (.aload_n 0, 1) := by decide +kernel
theorem dX3_approve_36 : decode cX3_approve 36 = .ok (.aload_n 3, 1) := by decide +kernel
theorem dX3_approve_37 : decode cX3_approve 37 = .ok (.getfield 152, 3) := by decide +kernel
theorem dX3_approve_40 : decode cX3_approve 40 = .ok (.aload_n 3, 1) := by decide +kernel
theorem dX3_approve_41 : decode cX3_approve 41 = .ok (.getfield 155, 3) := by decide +kernel
theorem dX3_approve_44 : decode cX3_approve 44 = .ok (.invokevirtual 123, 3) := by decide +kernel
theorem dX3_approve_47 : decode cX3_approve 47 = .ok (.aload_n 0, 1) := by decide +kernel
theorem dX3_approve_48 : decode cX3_approve 48 = .ok (.invokevirtual 130, 3) := by decide +kernel
theorem dX3_approve_51 : decode cX3_approve 51 = .ok (.aload_n 0, 1) := by decide +kernel
theorem dX3_approve_52 : decode cX3_approve 52 = .ok (.aload_n 3, 1) := by decide +kernel
theorem dX3_approve_53 : decode cX3_approve 53 = .ok (.getfield 155, 3) := by decide +kernel
theorem dX3_approve_56 : decode cX3_approve 56 = .ok (.aload_n 3, 1) := by decide +kernel
theorem dX3_approve_57 : decode cX3_approve 57 = .ok (.getfield 158, 3) := by decide +kernel
theorem dX3_approve_60 : decode cX3_approve 60 = .ok (.aload_n 3, 1) := by decide +kernel
theorem dX3_approve_61 : decode cX3_approve 61 = .ok (.getfield 152, 3) := by decide +kernel
theorem dX3_approve_64 : decode cX3_approve 64 = .ok (.iload_n 1, 1) := by decide +kernel
theorem dX3_approve_65 : decode cX3_approve 65 = .ok (.iconst (-1), 1) := by decide +kernel
theorem dX3_approve_66 : decode cX3_approve 66 = .ok (.invokevirtual 139, 3) := by decide +kernel
theorem dX3_approve_69 : decode cX3_approve 69 = .ok (.istore 4, 2) := by decide +kernel
theorem dX3_approve_71 : decode cX3_approve 71 = .ok (.aload_n 3, 1) := by decide +kernel
theorem dX3_approve_72 : decode cX3_approve 72 = .ok (.invokevirtual 162, 3) := by decide +kernel
theorem dX3_approve_75 : decode cX3_approve 75 = .ok (.iload 4, 2) := by decide +kernel
theorem dX3_approve_77 : decode cX3_approve 77 = .ok (.ireturn, 1) := by decide +kernel
theorem dX3_withdraw_0 : decode cX3_withdraw 0 = .ok (.iload_n 1, 1) := by decide +kernel
theorem dX3_withdraw_1 : decode cX3_withdraw 1 = .ok (.invokestatic 93, 3) := by decide +kernel
theorem dX3_withdraw_4 : decode cX3_withdraw 4 = .ok (.aload_n 0, 1) := by decide +kernel
theorem dX3_withdraw_5 : decode cX3_withdraw 5 = .ok (.iload_n 2, 1) := by decide +kernel
theorem dX3_withdraw_6 : decode cX3_withdraw 6 = .ok (.invokevirtual 143, 3) := by decide +kernel
theorem dX3_withdraw_9 : decode cX3_withdraw 9 = .ok (.aload_n 0, 1) := by decide +kernel
theorem dX3_withdraw_10 : decode cX3_withdraw 10 = .ok (.getfield 28, 3) := by decide +kernel
theorem dX3_withdraw_13 : decode cX3_withdraw 13 = .ok (.iload_n 2, 1) := by decide +kernel
theorem dX3_withdraw_14 : decode cX3_withdraw 14 = .ok (.aaload, 1) := by decide +kernel
theorem dX3_withdraw_15 : decode cX3_withdraw 15 = .ok (.astore_n 3, 1) := by decide +kernel
theorem dX3_withdraw_16 : decode cX3_withdraw 16 = .ok (.aload_n 3, 1) := by decide +kernel
theorem dX3_withdraw_17 : decode cX3_withdraw 17 = .ok (.getfield 152, 3) := by decide +kernel
theorem dX3_withdraw_20 : decode cX3_withdraw 20 = .ok (.iload_n 1, 1) := by decide +kernel
theorem dX3_withdraw_21 : decode cX3_withdraw 21 = .ok (.if_icmp .eq 22, 3) := by decide +kernel
theorem dX3_withdraw_24 : decode cX3_withdraw 24 = .ok (.aload_n 0, 1) := by decide +kernel
theorem dX3_withdraw_25 : decode cX3_withdraw 25 = .ok (.iload_n 1, 1) := by decide +kernel
theorem dX3_withdraw_26 : decode cX3_withdraw 26 = .ok (.aload_n 3, 1) := by decide +kernel
theorem dX3_withdraw_27 : decode cX3_withdraw 27 = .ok (.invokevirtual 146, 3) := by decide +kernel
theorem dX3_withdraw_30 : decode cX3_withdraw 30 = .ok (.ifCond .ne 13, 3) := by decide +kernel
theorem dX3_withdraw_33 : decode cX3_withdraw 33 = .ok (.new 108, 3) := by decide +kernel
theorem dX3_withdraw_36 : decode cX3_withdraw 36 = .ok (.dup, 1) := by decide +kernel
theorem dX3_withdraw_37 : decode cX3_withdraw 37 = .ok (.ldc 165, 2) := by decide +kernel
theorem dX3_withdraw_39 : decode cX3_withdraw 39 = .ok (.invokespecial 112, 3) := by decide +kernel
theorem dX3_withdraw_42 : decode cX3_withdraw 42 = .ok (.athrow, 1) := by decide +kernel
theorem dX3_withdraw_43 : decode cX3_withdraw 43 = .ok (.aload_n 3, 1) := by decide +kernel
theorem dX3_withdraw_44 : decode cX3_withdraw 44 = .ok (.invokevirtual 162, 3) := by decide +kernel
theorem dX3_withdraw_47 : decode cX3_withdraw 47 = .ok (.return_, 1) := by decide +kernel
theorem dX3_reverse_0 : decode cX3_reverse 0 = .ok (.iload_n 1, 1) := by decide +kernel
theorem dX3_reverse_1 : decode cX3_reverse 1 = .ok (.invokestatic 93, 3) := by decide +kernel
theorem dX3_reverse_4 : decode cX3_reverse 4 = .ok (.aload_n 0, 1) := by decide +kernel
theorem dX3_reverse_5 : decode cX3_reverse 5 = .ok (.iload_n 2, 1) := by decide +kernel
theorem dX3_reverse_6 : decode cX3_reverse 6 = .ok (.invokevirtual 167, 3) := by decide +kernel
theorem dX3_reverse_9 : decode cX3_reverse 9 = .ok (.aload_n 0, 1) := by decide +kernel
theorem dX3_reverse_10 : decode cX3_reverse 10 = .ok (.getfield 34, 3) := by decide +kernel
theorem dX3_reverse_13 : decode cX3_reverse 13 = .ok (.iload_n 2, 1) := by decide +kernel
theorem dX3_reverse_14 : decode cX3_reverse 14 = .ok (.aaload, 1) := by decide +kernel
theorem dX3_reverse_15 : decode cX3_reverse 15 = .ok (.astore_n 3, 1) := by decide +kernel
theorem dX3_reverse_16 : decode cX3_reverse 16 = .ok (.aload_n 0, 1) := by decide +kernel
theorem dX3_reverse_17 : decode cX3_reverse 17 = .ok (.iload_n 1, 1) := by decide +kernel
theorem dX3_reverse_18 : decode cX3_reverse 18 = .ok (.aload_n 3, 1) := by decide +kernel
theorem dX3_reverse_19 : decode cX3_reverse 19 = .ok (.getfield 170, 3) := by decide +kernel
theorem dX3_reverse_22 : decode cX3_reverse 22 = .ok (.invokevirtual 123, 3) := by decide +kernel
theorem dX3_reverse_25 : decode cX3_reverse 25 = .ok (.aload_n 3, 1) := by decide +kernel
theorem dX3_reverse_26 : decode cX3_reverse 26 = .ok (.getfield 171, 3) := by decide +kernel
theorem dX3_reverse_29 : decode cX3_reverse 29 = .ok (.iload_n 1, 1) := by decide +kernel
theorem dX3_reverse_30 : decode cX3_reverse 30 = .ok (.if_icmp .ne 13, 3) := by decide +kernel
theorem dX3_reverse_33 : decode cX3_reverse 33 = .ok (.new 108, 3) := by decide +kernel
theorem dX3_reverse_36 : decode cX3_reverse 36 = .ok (.dup, 1) := by decide +kernel
theorem dX3_reverse_37 : decode cX3_reverse 37 = .ok (.ldc 172, 2) := by decide +kernel
theorem dX3_reverse_39 : decode cX3_reverse 39 = .ok (.invokespecial 112, 3) := by decide +kernel
theorem dX3_reverse_42 : decode cX3_reverse 42 = .ok (.athrow, 1) := by decide +kernel
theorem dX3_reverse_43 : decode cX3_reverse 43 = .ok (.aload_n 3, 1) := by decide +kernel
theorem dX3_reverse_44 : decode cX3_reverse 44 = .ok (.getfield 174, 3) := by decide +kernel
theorem dX3_reverse_47 : decode cX3_reverse 47 = .ok (.iconst (-1), 1) := by decide +kernel
theorem dX3_reverse_48 : decode cX3_reverse 48 = .ok (.if_icmp .ne 11, 3) := by decide +kernel
theorem dX3_reverse_51 : decode cX3_reverse 51 = .ok (.aload_n 3, 1) := by decide +kernel
theorem dX3_reverse_52 : decode cX3_reverse 52 = .ok (.getfield 177, 3) := by decide +kernel
theorem dX3_reverse_55 : decode cX3_reverse 55 = .ok (.iconst (-1), 1) := by decide +kernel
theorem dX3_reverse_56 : decode cX3_reverse 56 = .ok (.if_icmp .eq 13, 3) := by decide +kernel
theorem dX3_reverse_59 : decode cX3_reverse 59 = .ok (.new 61, 3) := by decide +kernel
theorem dX3_reverse_62 : decode cX3_reverse 62 = .ok (.dup, 1) := by decide +kernel
theorem dX3_reverse_63 : decode cX3_reverse 63 = .ok (.ldc 180, 2) := by decide +kernel
theorem dX3_reverse_65 : decode cX3_reverse 65 = .ok (.invokespecial 65, 3) := by decide +kernel
theorem dX3_reverse_68 : decode cX3_reverse 68 = .ok (.athrow, 1) := by decide +kernel
theorem dX3_reverse_69 : decode cX3_reverse 69 = .ok (.aload_n 0, 1) := by decide +kernel
theorem dX3_reverse_70 : decode cX3_reverse 70 = .ok (.invokevirtual 130, 3) := by decide +kernel
theorem dX3_reverse_73 : decode cX3_reverse 73 = .ok (.aload_n 0, 1) := by decide +kernel
theorem dX3_reverse_74 : decode cX3_reverse 74 = .ok (.aload_n 3, 1) := by decide +kernel
theorem dX3_reverse_75 : decode cX3_reverse 75 = .ok (.getfield 170, 3) := by decide +kernel
theorem dX3_reverse_78 : decode cX3_reverse 78 = .ok (.aload_n 3, 1) := by decide +kernel
theorem dX3_reverse_79 : decode cX3_reverse 79 = .ok (.getfield 182, 3) := by decide +kernel
theorem dX3_reverse_82 : decode cX3_reverse 82 = .ok (.iload_n 1, 1) := by decide +kernel
theorem dX3_reverse_83 : decode cX3_reverse 83 = .ok (.iconst (-1), 1) := by decide +kernel
theorem dX3_reverse_84 : decode cX3_reverse 84 = .ok (.iload_n 2, 1) := by decide +kernel
theorem dX3_reverse_85 : decode cX3_reverse 85 = .ok (.invokevirtual 139, 3) := by decide +kernel
theorem dX3_reverse_88 : decode cX3_reverse 88 = .ok (.istore 4, 2) := by decide +kernel
theorem dX3_reverse_90 : decode cX3_reverse 90 = .ok (.aload_n 3, 1) := by decide +kernel
theorem dX3_reverse_91 : decode cX3_reverse 91 = .ok (.iload 4, 2) := by decide +kernel
theorem dX3_reverse_93 : decode cX3_reverse 93 = .ok (.putfield 177, 3) := by decide +kernel
theorem dX3_reverse_96 : decode cX3_reverse 96 = .ok (.iload 4, 2) := by decide +kernel
theorem dX3_reverse_98 : decode cX3_reverse 98 = .ok (.ireturn, 1) := by decide +kernel
theorem dX3_tamper_0 : decode cX3_tamper 0 = .ok (.iload_n 1, 1) := by decide +kernel
theorem dX3_tamper_1 : decode cX3_tamper 1 = .ok (.invokestatic 54, 3) := by decide +kernel
theorem dX3_tamper_4 : decode cX3_tamper 4 = .ok (.lload_n 2, 1) := by decide +kernel
theorem dX3_tamper_5 : decode cX3_tamper 5 = .ok (.ldc2_w 183, 3) := by decide +kernel
theorem dX3_tamper_8 : decode cX3_tamper 8 = .ok (.lcmp, 1) := by decide +kernel
theorem dX3_tamper_9 : decode cX3_tamper 9 = .ok (.ifCond .lt 11, 3) := by decide +kernel
theorem dX3_tamper_12 : decode cX3_tamper 12 = .ok (.lload_n 2, 1) := by decide +kernel
theorem dX3_tamper_13 : decode cX3_tamper 13 = .ok (.ldc2_w 185, 3) := by decide +kernel
theorem dX3_tamper_16 : decode cX3_tamper 16 = .ok (.lcmp, 1) := by decide +kernel
theorem dX3_tamper_17 : decode cX3_tamper 17 = .ok (.ifCond .le 13, 3) := by decide +kernel
theorem dX3_tamper_20 : decode cX3_tamper 20 = .ok (.new 79, 3) := by decide +kernel
theorem dX3_tamper_23 : decode cX3_tamper 23 = .ok (.dup, 1) := by decide +kernel
theorem dX3_tamper_24 : decode cX3_tamper 24 = .ok (.ldc 187, 2) := by decide +kernel
theorem dX3_tamper_26 : decode cX3_tamper 26 = .ok (.invokespecial 83, 3) := by decide +kernel
theorem dX3_tamper_29 : decode cX3_tamper 29 = .ok (.athrow, 1) := by decide +kernel
theorem dX3_tamper_30 : decode cX3_tamper 30 = .ok (.aload_n 0, 1) := by decide +kernel
theorem dX3_tamper_31 : decode cX3_tamper 31 = .ok (.getfield 9, 3) := by decide +kernel
theorem dX3_tamper_34 : decode cX3_tamper 34 = .ok (.iload_n 1, 1) := by decide +kernel
theorem dX3_tamper_35 : decode cX3_tamper 35 = .ok (.laload, 1) := by decide +kernel
theorem dX3_tamper_36 : decode cX3_tamper 36 = .ok (.lload_n 2, 1) := by decide +kernel
theorem dX3_tamper_37 : decode cX3_tamper 37 = .ok (.ladd, 1) := by decide +kernel
theorem dX3_tamper_38 : decode cX3_tamper 38 = .ok (.lstore 4, 2) := by decide +kernel
theorem dX3_tamper_40 : decode cX3_tamper 40 = .ok (.lload 4, 2) := by decide +kernel
theorem dX3_tamper_42 : decode cX3_tamper 42 = .ok (.invokestatic 117, 3) := by decide +kernel
theorem dX3_tamper_45 : decode cX3_tamper 45 = .ok (.ifCond .eq 13, 3) := by decide +kernel
theorem dX3_tamper_48 : decode cX3_tamper 48 = .ok (.new 61, 3) := by decide +kernel
theorem dX3_tamper_51 : decode cX3_tamper 51 = .ok (.dup, 1) := by decide +kernel
theorem dX3_tamper_52 : decode cX3_tamper 52 = .ok (.ldc 189, 2) := by decide +kernel
theorem dX3_tamper_54 : decode cX3_tamper 54 = .ok (.invokespecial 65, 3) := by decide +kernel
theorem dX3_tamper_57 : decode cX3_tamper 57 = .ok (.athrow, 1) := by decide +kernel
theorem dX3_tamper_58 : decode cX3_tamper 58 = .ok (.aload_n 0, 1) := by decide +kernel
theorem dX3_tamper_59 : decode cX3_tamper 59 = .ok (.getfield 9, 3) := by decide +kernel
theorem dX3_tamper_62 : decode cX3_tamper 62 = .ok (.iload_n 1, 1) := by decide +kernel
theorem dX3_tamper_63 : decode cX3_tamper 63 = .ok (.lload 4, 2) := by decide +kernel
theorem dX3_tamper_65 : decode cX3_tamper 65 = .ok (.lastore, 1) := by decide +kernel
theorem dX3_tamper_66 : decode cX3_tamper 66 = .ok (.lload 4, 2) := by decide +kernel
theorem dX3_tamper_68 : decode cX3_tamper 68 = .ok (.lreturn, 1) := by decide +kernel
theorem dX3_sound_0 : decode cX3_sound 0 = .ok (.aload_n 0, 1) := by decide +kernel
theorem dX3_sound_1 : decode cX3_sound 1 = .ok (.invokevirtual 191, 3) := by decide +kernel
theorem dX3_sound_4 : decode cX3_sound 4 = .ok (.ifCond .ne 7, 3) := by decide +kernel
theorem dX3_sound_7 : decode cX3_sound 7 = .ok (.iconst 1, 1) := by decide +kernel
theorem dX3_sound_8 : decode cX3_sound 8 = .ok (.goto 4, 3) := by decide +kernel
theorem dX3_sound_11 : decode cX3_sound 11 = .ok (.iconst 0, 1) := by decide +kernel
theorem dX3_sound_12 : decode cX3_sound 12 = .ok (.ireturn, 1) := by decide +kernel
theorem dX3_restore_0 : decode cX3_restore 0 = .ok (.iload_n 1, 1) := by decide +kernel
theorem dX3_restore_1 : decode cX3_restore 1 = .ok (.invokestatic 93, 3) := by decide +kernel
theorem dX3_restore_4 : decode cX3_restore 4 = .ok (.iload_n 1, 1) := by decide +kernel
theorem dX3_restore_5 : decode cX3_restore 5 = .ok (.invokestatic 96, 3) := by decide +kernel
theorem dX3_restore_8 : decode cX3_restore 8 = .ok (.aload_n 0, 1) := by decide +kernel
theorem dX3_restore_9 : decode cX3_restore 9 = .ok (.invokevirtual 191, 3) := by decide +kernel
theorem dX3_restore_12 : decode cX3_restore 12 = .ok (.istore_n 2, 1) := by decide +kernel
theorem dX3_restore_13 : decode cX3_restore 13 = .ok (.iconst 0, 1) := by decide +kernel
theorem dX3_restore_14 : decode cX3_restore 14 = .ok (.istore_n 3, 1) := by decide +kernel
theorem dX3_restore_15 : decode cX3_restore 15 = .ok (.iload_n 3, 1) := by decide +kernel
theorem dX3_restore_16 : decode cX3_restore 16 = .ok (.bipush 8, 2) := by decide +kernel
theorem dX3_restore_18 : decode cX3_restore 18 = .ok (.if_icmp .ge 26, 3) := by decide +kernel
theorem dX3_restore_21 : decode cX3_restore 21 = .ok (.aload_n 0, 1) := by decide +kernel
theorem dX3_restore_22 : decode cX3_restore 22 = .ok (.getfield 9, 3) := by decide +kernel
theorem dX3_restore_25 : decode cX3_restore 25 = .ok (.iload_n 3, 1) := by decide +kernel
theorem dX3_restore_26 : decode cX3_restore 26 = .ok (.aload_n 0, 1) := by decide +kernel
theorem dX3_restore_27 : decode cX3_restore 27 = .ok (.getfield 43, 3) := by decide +kernel
theorem dX3_restore_30 : decode cX3_restore 30 = .ok (.aload_n 0, 1) := by decide +kernel
theorem dX3_restore_31 : decode cX3_restore 31 = .ok (.getfield 38, 3) := by decide +kernel
theorem dX3_restore_34 : decode cX3_restore 34 = .ok (.aaload, 1) := by decide +kernel
theorem dX3_restore_35 : decode cX3_restore 35 = .ok (.iload_n 3, 1) := by decide +kernel
theorem dX3_restore_36 : decode cX3_restore 36 = .ok (.laload, 1) := by decide +kernel
theorem dX3_restore_37 : decode cX3_restore 37 = .ok (.lastore, 1) := by decide +kernel
theorem dX3_restore_38 : decode cX3_restore 38 = .ok (.iinc 3 1, 3) := by decide +kernel
theorem dX3_restore_41 : decode cX3_restore 41 = .ok (.goto (-26), 3) := by decide +kernel
theorem dX3_restore_44 : decode cX3_restore 44 = .ok (.iload_n 2, 1) := by decide +kernel
theorem dX3_restore_45 : decode cX3_restore 45 = .ok (.ireturn, 1) := by decide +kernel
theorem dX3_balance_0 : decode cX3_balance 0 = .ok (.iload_n 1, 1) := by decide +kernel
theorem dX3_balance_1 : decode cX3_balance 1 = .ok (.invokestatic 54, 3) := by decide +kernel
theorem dX3_balance_4 : decode cX3_balance 4 = .ok (.aload_n 0, 1) := by decide +kernel
theorem dX3_balance_5 : decode cX3_balance 5 = .ok (.getfield 9, 3) := by decide +kernel
theorem dX3_balance_8 : decode cX3_balance 8 = .ok (.iload_n 1, 1) := by decide +kernel
theorem dX3_balance_9 : decode cX3_balance 9 = .ok (.laload, 1) := by decide +kernel
theorem dX3_balance_10 : decode cX3_balance 10 = .ok (.lreturn, 1) := by decide +kernel
theorem dX3_balanceAt_0 : decode cX3_balanceAt 0 = .ok (.iload_n 1, 1) := by decide +kernel
theorem dX3_balanceAt_1 : decode cX3_balanceAt 1 = .ok (.invokestatic 54, 3) := by decide +kernel
theorem dX3_balanceAt_4 : decode cX3_balanceAt 4 = .ok (.iload_n 2, 1) := by decide +kernel
theorem dX3_balanceAt_5 : decode cX3_balanceAt 5 = .ok (.ifCond .lt 11, 3) := by decide +kernel
theorem dX3_balanceAt_8 : decode cX3_balanceAt 8 = .ok (.iload_n 2, 1) := by decide +kernel
theorem dX3_balanceAt_9 : decode cX3_balanceAt 9 = .ok (.aload_n 0, 1) := by decide +kernel
theorem dX3_balanceAt_10 : decode cX3_balanceAt 10 = .ok (.getfield 38, 3) := by decide +kernel
theorem dX3_balanceAt_13 : decode cX3_balanceAt 13 = .ok (.if_icmp .le 13, 3) := by decide +kernel
theorem dX3_balanceAt_16 : decode cX3_balanceAt 16 = .ok (.new 194, 3) := by decide +kernel
theorem dX3_balanceAt_19 : decode cX3_balanceAt 19 = .ok (.dup, 1) := by decide +kernel
theorem dX3_balanceAt_20 : decode cX3_balanceAt 20 = .ok (.ldc 196, 2) := by decide +kernel
theorem dX3_balanceAt_22 : decode cX3_balanceAt 22 = .ok (.invokespecial 198, 3) := by decide +kernel
theorem dX3_balanceAt_25 : decode cX3_balanceAt 25 = .ok (.athrow, 1) := by decide +kernel
theorem dX3_balanceAt_26 : decode cX3_balanceAt 26 = .ok (.aload_n 0, 1) := by decide +kernel
theorem dX3_balanceAt_27 : decode cX3_balanceAt 27 = .ok (.getfield 43, 3) := by decide +kernel
theorem dX3_balanceAt_30 : decode cX3_balanceAt 30 = .ok (.iload_n 2, 1) := by decide +kernel
theorem dX3_balanceAt_31 : decode cX3_balanceAt 31 = .ok (.aaload, 1) := by decide +kernel
theorem dX3_balanceAt_32 : decode cX3_balanceAt 32 = .ok (.iload_n 1, 1) := by decide +kernel
theorem dX3_balanceAt_33 : decode cX3_balanceAt 33 = .ok (.laload, 1) := by decide +kernel
theorem dX3_balanceAt_34 : decode cX3_balanceAt 34 = .ok (.lreturn, 1) := by decide +kernel
theorem dX3_entries_0 : decode cX3_entries 0 = .ok (.aload_n 0, 1) := by decide +kernel
theorem dX3_entries_1 : decode cX3_entries 1 = .ok (.getfield 38, 3) := by decide +kernel
theorem dX3_entries_4 : decode cX3_entries 4 = .ok (.ireturn, 1) := by decide +kernel
theorem dX3_entry_0 : decode cX3_entry 0 = .ok (.aload_n 0, 1) := by decide +kernel
theorem dX3_entry_1 : decode cX3_entry 1 = .ok (.iload_n 1, 1) := by decide +kernel
theorem dX3_entry_2 : decode cX3_entry 2 = .ok (.invokevirtual 167, 3) := by decide +kernel
theorem dX3_entry_5 : decode cX3_entry 5 = .ok (.aload_n 0, 1) := by decide +kernel
theorem dX3_entry_6 : decode cX3_entry 6 = .ok (.getfield 34, 3) := by decide +kernel
theorem dX3_entry_9 : decode cX3_entry 9 = .ok (.iload_n 1, 1) := by decide +kernel
theorem dX3_entry_10 : decode cX3_entry 10 = .ok (.aaload, 1) := by decide +kernel
theorem dX3_entry_11 : decode cX3_entry 11 = .ok (.astore_n 3, 1) := by decide +kernel
theorem dX3_entry_12 : decode cX3_entry 12 = .ok (.iload_n 2, 1) := by decide +kernel
theorem dX3_entry_13 : decode cX3_entry 13 = .ok (.tableswitch 60 0 4 #[35, 40, 45, 50, 55], 35) := by decide +kernel
theorem dX3_entry_48 : decode cX3_entry 48 = .ok (.aload_n 3, 1) := by decide +kernel
theorem dX3_entry_49 : decode cX3_entry 49 = .ok (.getfield 170, 3) := by decide +kernel
theorem dX3_entry_52 : decode cX3_entry 52 = .ok (.ireturn, 1) := by decide +kernel
theorem dX3_entry_53 : decode cX3_entry 53 = .ok (.aload_n 3, 1) := by decide +kernel
theorem dX3_entry_54 : decode cX3_entry 54 = .ok (.getfield 171, 3) := by decide +kernel
theorem dX3_entry_57 : decode cX3_entry 57 = .ok (.ireturn, 1) := by decide +kernel
theorem dX3_entry_58 : decode cX3_entry 58 = .ok (.aload_n 3, 1) := by decide +kernel
theorem dX3_entry_59 : decode cX3_entry 59 = .ok (.getfield 199, 3) := by decide +kernel
theorem dX3_entry_62 : decode cX3_entry 62 = .ok (.ireturn, 1) := by decide +kernel
theorem dX3_entry_63 : decode cX3_entry 63 = .ok (.aload_n 3, 1) := by decide +kernel
theorem dX3_entry_64 : decode cX3_entry 64 = .ok (.getfield 174, 3) := by decide +kernel
theorem dX3_entry_67 : decode cX3_entry 67 = .ok (.ireturn, 1) := by decide +kernel
theorem dX3_entry_68 : decode cX3_entry 68 = .ok (.aload_n 3, 1) := by decide +kernel
theorem dX3_entry_69 : decode cX3_entry 69 = .ok (.getfield 177, 3) := by decide +kernel
theorem dX3_entry_72 : decode cX3_entry 72 = .ok (.ireturn, 1) := by decide +kernel
theorem dX3_entry_73 : decode cX3_entry 73 = .ok (.new 194, 3) := by decide +kernel
theorem dX3_entry_76 : decode cX3_entry 76 = .ok (.dup, 1) := by decide +kernel
theorem dX3_entry_77 : decode cX3_entry 77 = .ok (.ldc 202, 2) := by decide +kernel
theorem dX3_entry_79 : decode cX3_entry 79 = .ok (.invokespecial 198, 3) := by decide +kernel
theorem dX3_entry_82 : decode cX3_entry 82 = .ok (.athrow, 1) := by decide +kernel
theorem dX3_amount_0 : decode cX3_amount 0 = .ok (.aload_n 0, 1) := by decide +kernel
theorem dX3_amount_1 : decode cX3_amount 1 = .ok (.iload_n 1, 1) := by decide +kernel
theorem dX3_amount_2 : decode cX3_amount 2 = .ok (.invokevirtual 167, 3) := by decide +kernel
theorem dX3_amount_5 : decode cX3_amount 5 = .ok (.aload_n 0, 1) := by decide +kernel
theorem dX3_amount_6 : decode cX3_amount 6 = .ok (.getfield 34, 3) := by decide +kernel
theorem dX3_amount_9 : decode cX3_amount 9 = .ok (.iload_n 1, 1) := by decide +kernel
theorem dX3_amount_10 : decode cX3_amount 10 = .ok (.aaload, 1) := by decide +kernel
theorem dX3_amount_11 : decode cX3_amount 11 = .ok (.getfield 182, 3) := by decide +kernel
theorem dX3_amount_14 : decode cX3_amount 14 = .ok (.lreturn, 1) := by decide +kernel
theorem dX3_requested_0 : decode cX3_requested 0 = .ok (.iload_n 1, 1) := by decide +kernel
theorem dX3_requested_1 : decode cX3_requested 1 = .ok (.ifCond .lt 9, 3) := by decide +kernel
theorem dX3_requested_4 : decode cX3_requested 4 = .ok (.iload_n 1, 1) := by decide +kernel
theorem dX3_requested_5 : decode cX3_requested 5 = .ok (.bipush 6, 2) := by decide +kernel
theorem dX3_requested_7 : decode cX3_requested 7 = .ok (.if_icmp .lt 13, 3) := by decide +kernel
theorem dX3_requested_10 : decode cX3_requested 10 = .ok (.new 194, 3) := by decide +kernel
theorem dX3_requested_13 : decode cX3_requested 13 = .ok (.dup, 1) := by decide +kernel
theorem dX3_requested_14 : decode cX3_requested 14 = .ok (.ldc 204, 2) := by decide +kernel
theorem dX3_requested_16 : decode cX3_requested 16 = .ok (.invokespecial 198, 3) := by decide +kernel
theorem dX3_requested_19 : decode cX3_requested 19 = .ok (.athrow, 1) := by decide +kernel
theorem dX3_requested_20 : decode cX3_requested 20 = .ok (.aload_n 0, 1) := by decide +kernel
theorem dX3_requested_21 : decode cX3_requested 21 = .ok (.getfield 28, 3) := by decide +kernel
theorem dX3_requested_24 : decode cX3_requested 24 = .ok (.iload_n 1, 1) := by decide +kernel
theorem dX3_requested_25 : decode cX3_requested 25 = .ok (.aaload, 1) := by decide +kernel
theorem dX3_requested_26 : decode cX3_requested 26 = .ok (.getfield 152, 3) := by decide +kernel
theorem dX3_requested_29 : decode cX3_requested 29 = .ok (.ireturn, 1) := by decide +kernel
theorem dX3_mayRun_0 : decode cX3_mayRun 0 = .ok (.iload_n 1, 1) := by decide +kernel
theorem dX3_mayRun_1 : decode cX3_mayRun 1 = .ok (.invokestatic 206, 3) := by decide +kernel
theorem dX3_mayRun_4 : decode cX3_mayRun 4 = .ok (.ifCond .eq 11, 3) := by decide +kernel
theorem dX3_mayRun_7 : decode cX3_mayRun 7 = .ok (.aload_n 0, 1) := by decide +kernel
theorem dX3_mayRun_8 : decode cX3_mayRun 8 = .ok (.iload_n 2, 1) := by decide +kernel
theorem dX3_mayRun_9 : decode cX3_mayRun 9 = .ok (.invokevirtual 209, 3) := by decide +kernel
theorem dX3_mayRun_12 : decode cX3_mayRun 12 = .ok (.ifCond .ne 5, 3) := by decide +kernel
theorem dX3_mayRun_15 : decode cX3_mayRun 15 = .ok (.iconst 0, 1) := by decide +kernel
theorem dX3_mayRun_16 : decode cX3_mayRun 16 = .ok (.ireturn, 1) := by decide +kernel
theorem dX3_mayRun_17 : decode cX3_mayRun 17 = .ok (.aload_n 0, 1) := by decide +kernel
theorem dX3_mayRun_18 : decode cX3_mayRun 18 = .ok (.getfield 18, 3) := by decide +kernel
theorem dX3_mayRun_21 : decode cX3_mayRun 21 = .ok (.iload_n 2, 1) := by decide +kernel
theorem dX3_mayRun_22 : decode cX3_mayRun 22 = .ok (.aaload, 1) := by decide +kernel
theorem dX3_mayRun_23 : decode cX3_mayRun 23 = .ok (.astore_n 3, 1) := by decide +kernel
theorem dX3_mayRun_24 : decode cX3_mayRun 24 = .ok (.aload_n 3, 1) := by decide +kernel
theorem dX3_mayRun_25 : decode cX3_mayRun 25 = .ok (.invokevirtual 84, 3) := by decide +kernel
theorem dX3_mayRun_28 : decode cX3_mayRun 28 = .ok (.ifCond .eq 24, 3) := by decide +kernel
theorem dX3_mayRun_31 : decode cX3_mayRun 31 = .ok (.aload_n 3, 1) := by decide +kernel
theorem dX3_mayRun_32 : decode cX3_mayRun 32 = .ok (.getfield 105, 3) := by decide +kernel
theorem dX3_mayRun_35 : decode cX3_mayRun 35 = .ok (.iload_n 1, 1) := by decide +kernel
theorem dX3_mayRun_36 : decode cX3_mayRun 36 = .ok (.if_icmp .eq 16, 3) := by decide +kernel
theorem dX3_mayRun_39 : decode cX3_mayRun 39 = .ok (.aload_n 3, 1) := by decide +kernel
theorem dX3_mayRun_40 : decode cX3_mayRun 40 = .ok (.getfield 113, 3) := by decide +kernel
theorem dX3_mayRun_43 : decode cX3_mayRun 43 = .ok (.iload_n 1, 1) := by decide +kernel
theorem dX3_mayRun_44 : decode cX3_mayRun 44 = .ok (.baload, 1) := by decide +kernel
theorem dX3_mayRun_45 : decode cX3_mayRun 45 = .ok (.ifCond .eq 7, 3) := by decide +kernel
theorem dX3_mayRun_48 : decode cX3_mayRun 48 = .ok (.iconst 1, 1) := by decide +kernel
theorem dX3_mayRun_49 : decode cX3_mayRun 49 = .ok (.goto 4, 3) := by decide +kernel
theorem dX3_mayRun_52 : decode cX3_mayRun 52 = .ok (.iconst 0, 1) := by decide +kernel
theorem dX3_mayRun_53 : decode cX3_mayRun 53 = .ok (.ireturn, 1) := by decide +kernel
theorem dX3_mayApprove_0 : decode cX3_mayApprove 0 = .ok (.aload_n 0, 1) := by decide +kernel
theorem dX3_mayApprove_1 : decode cX3_mayApprove 1 = .ok (.iload_n 1, 1) := by decide +kernel
theorem dX3_mayApprove_2 : decode cX3_mayApprove 2 = .ok (.aload_n 2, 1) := by decide +kernel
theorem dX3_mayApprove_3 : decode cX3_mayApprove 3 = .ok (.getfield 155, 3) := by decide +kernel
theorem dX3_mayApprove_6 : decode cX3_mayApprove 6 = .ok (.invokevirtual 212, 3) := by decide +kernel
theorem dX3_mayApprove_9 : decode cX3_mayApprove 9 = .ok (.ifCond .eq 15, 3) := by decide +kernel
theorem dX3_mayApprove_12 : decode cX3_mayApprove 12 = .ok (.aload_n 2, 1) := by decide +kernel
theorem dX3_mayApprove_13 : decode cX3_mayApprove 13 = .ok (.getfield 152, 3) := by decide +kernel
theorem dX3_mayApprove_16 : decode cX3_mayApprove 16 = .ok (.iload_n 1, 1) := by decide +kernel
theorem dX3_mayApprove_17 : decode cX3_mayApprove 17 = .ok (.if_icmp .eq 7, 3) := by decide +kernel
theorem dX3_mayApprove_20 : decode cX3_mayApprove 20 = .ok (.iconst 1, 1) := by decide +kernel
theorem dX3_mayApprove_21 : decode cX3_mayApprove 21 = .ok (.goto 4, 3) := by decide +kernel
theorem dX3_mayApprove_24 : decode cX3_mayApprove 24 = .ok (.iconst 0, 1) := by decide +kernel
theorem dX3_mayApprove_25 : decode cX3_mayApprove 25 = .ok (.ireturn, 1) := by decide +kernel
theorem dX3_fileRequest_0 : decode cX3_fileRequest 0 = .ok (.iconst 0, 1) := by decide +kernel
theorem dX3_fileRequest_1 : decode cX3_fileRequest 1 = .ok (.istore 5, 2) := by decide +kernel
theorem dX3_fileRequest_3 : decode cX3_fileRequest 3 = .ok (.iload 5, 2) := by decide +kernel
theorem dX3_fileRequest_5 : decode cX3_fileRequest 5 = .ok (.bipush 6, 2) := by decide +kernel
theorem dX3_fileRequest_7 : decode cX3_fileRequest 7 = .ok (.if_icmp .ge 38, 3) := by decide +kernel
theorem dX3_fileRequest_10 : decode cX3_fileRequest 10 = .ok (.aload_n 0, 1) := by decide +kernel
theorem dX3_fileRequest_11 : decode cX3_fileRequest 11 = .ok (.getfield 28, 3) := by decide +kernel
theorem dX3_fileRequest_14 : decode cX3_fileRequest 14 = .ok (.iload 5, 2) := by decide +kernel
theorem dX3_fileRequest_16 : decode cX3_fileRequest 16 = .ok (.aaload, 1) := by decide +kernel
theorem dX3_fileRequest_17 : decode cX3_fileRequest 17 = .ok (.invokevirtual 216, 3) := by decide +kernel
theorem dX3_fileRequest_20 : decode cX3_fileRequest 20 = .ok (.ifCond .ne 19, 3) := by decide +kernel
theorem dX3_fileRequest_23 : decode cX3_fileRequest 23 = .ok (.aload_n 0, 1) := by decide +kernel
theorem dX3_fileRequest_24 : decode cX3_fileRequest 24 = .ok (.getfield 28, 3) := by decide +kernel
theorem dX3_fileRequest_27 : decode cX3_fileRequest 27 = .ok (.iload 5, 2) := by decide +kernel
theorem dX3_fileRequest_29 : decode cX3_fileRequest 29 = .ok (.aaload, 1) := by decide +kernel
theorem dX3_fileRequest_30 : decode cX3_fileRequest 30 = .ok (.iload_n 1, 1) := by decide +kernel
theorem dX3_fileRequest_31 : decode cX3_fileRequest 31 = .ok (.iload_n 2, 1) := by decide +kernel
theorem dX3_fileRequest_32 : decode cX3_fileRequest 32 = .ok (.lload_n 3, 1) := by decide +kernel
theorem dX3_fileRequest_33 : decode cX3_fileRequest 33 = .ok (.invokevirtual 219, 3) := by decide +kernel
theorem dX3_fileRequest_36 : decode cX3_fileRequest 36 = .ok (.iload 5, 2) := by decide +kernel
theorem dX3_fileRequest_38 : decode cX3_fileRequest 38 = .ok (.ireturn, 1) := by decide +kernel
theorem dX3_fileRequest_39 : decode cX3_fileRequest 39 = .ok (.iinc 5 1, 3) := by decide +kernel
theorem dX3_fileRequest_42 : decode cX3_fileRequest 42 = .ok (.goto (-39), 3) := by decide +kernel
theorem dX3_fileRequest_45 : decode cX3_fileRequest 45 = .ok (.new 61, 3) := by decide +kernel
theorem dX3_fileRequest_48 : decode cX3_fileRequest 48 = .ok (.dup, 1) := by decide +kernel
theorem dX3_fileRequest_49 : decode cX3_fileRequest 49 = .ok (.ldc 223, 2) := by decide +kernel
theorem dX3_fileRequest_51 : decode cX3_fileRequest 51 = .ok (.invokespecial 65, 3) := by decide +kernel
theorem dX3_fileRequest_54 : decode cX3_fileRequest 54 = .ok (.athrow, 1) := by decide +kernel
theorem dX3_runAndLog_0 : decode cX3_runAndLog 0 = .ok (.aload_n 0, 1) := by decide +kernel
theorem dX3_runAndLog_1 : decode cX3_runAndLog 1 = .ok (.getfield 18, 3) := by decide +kernel
theorem dX3_runAndLog_4 : decode cX3_runAndLog 4 = .ok (.iload_n 1, 1) := by decide +kernel
theorem dX3_runAndLog_5 : decode cX3_runAndLog 5 = .ok (.aaload, 1) := by decide +kernel
theorem dX3_runAndLog_6 : decode cX3_runAndLog 6 = .ok (.astore 7, 2) := by decide +kernel
theorem dX3_runAndLog_8 : decode cX3_runAndLog 8 = .ok (.aload 7, 2) := by decide +kernel
theorem dX3_runAndLog_10 : decode cX3_runAndLog 10 = .ok (.lload_n 2, 1) := by decide +kernel
theorem dX3_runAndLog_11 : decode cX3_runAndLog 11 = .ok (.aload_n 0, 1) := by decide +kernel
theorem dX3_runAndLog_12 : decode cX3_runAndLog 12 = .ok (.getfield 46, 3) := by decide +kernel
theorem dX3_runAndLog_15 : decode cX3_runAndLog 15 = .ok (.invokevirtual 225, 3) := by decide +kernel
theorem dX3_runAndLog_18 : decode cX3_runAndLog 18 = .ok (.iload 6, 2) := by decide +kernel
theorem dX3_runAndLog_20 : decode cX3_runAndLog 20 = .ok (.iconst (-1), 1) := by decide +kernel
theorem dX3_runAndLog_21 : decode cX3_runAndLog 21 = .ok (.if_icmp .eq 7, 3) := by decide +kernel
theorem dX3_runAndLog_24 : decode cX3_runAndLog 24 = .ok (.aload_n 0, 1) := by decide +kernel
theorem dX3_runAndLog_25 : decode cX3_runAndLog 25 = .ok (.invokevirtual 229, 3) := by decide +kernel
theorem dX3_runAndLog_28 : decode cX3_runAndLog 28 = .ok (.aload_n 0, 1) := by decide +kernel
theorem dX3_runAndLog_29 : decode cX3_runAndLog 29 = .ok (.aload 7, 2) := by decide +kernel
theorem dX3_runAndLog_31 : decode cX3_runAndLog 31 = .ok (.invokevirtual 232, 3) := by decide +kernel
theorem dX3_runAndLog_34 : decode cX3_runAndLog 34 = .ok (.aload_n 0, 1) := by decide +kernel
theorem dX3_runAndLog_35 : decode cX3_runAndLog 35 = .ok (.getfield 38, 3) := by decide +kernel
theorem dX3_runAndLog_38 : decode cX3_runAndLog 38 = .ok (.istore 8, 2) := by decide +kernel
theorem dX3_runAndLog_40 : decode cX3_runAndLog 40 = .ok (.aload_n 0, 1) := by decide +kernel
theorem dX3_runAndLog_41 : decode cX3_runAndLog 41 = .ok (.getfield 43, 3) := by decide +kernel
theorem dX3_runAndLog_44 : decode cX3_runAndLog 44 = .ok (.iload 8, 2) := by decide +kernel
theorem dX3_runAndLog_46 : decode cX3_runAndLog 46 = .ok (.aaload, 1) := by decide +kernel
theorem dX3_runAndLog_47 : decode cX3_runAndLog 47 = .ok (.iconst 0, 1) := by decide +kernel
theorem dX3_runAndLog_48 : decode cX3_runAndLog 48 = .ok (.aload_n 0, 1) := by decide +kernel
theorem dX3_runAndLog_49 : decode cX3_runAndLog 49 = .ok (.getfield 43, 3) := by decide +kernel
theorem dX3_runAndLog_52 : decode cX3_runAndLog 52 = .ok (.iload 8, 2) := by decide +kernel
theorem dX3_runAndLog_54 : decode cX3_runAndLog 54 = .ok (.iconst 1, 1) := by decide +kernel
theorem dX3_runAndLog_55 : decode cX3_runAndLog 55 = .ok (.iadd, 1) := by decide +kernel
theorem dX3_runAndLog_56 : decode cX3_runAndLog 56 = .ok (.aaload, 1) := by decide +kernel
theorem dX3_runAndLog_57 : decode cX3_runAndLog 57 = .ok (.iconst 0, 1) := by decide +kernel
theorem dX3_runAndLog_58 : decode cX3_runAndLog 58 = .ok (.bipush 8, 2) := by decide +kernel
theorem dX3_runAndLog_60 : decode cX3_runAndLog 60 = .ok (.invokestatic 236, 3) := by decide +kernel
theorem dX3_runAndLog_63 : decode cX3_runAndLog 63 = .ok (.iconst 0, 1) := by decide +kernel
theorem dX3_runAndLog_64 : decode cX3_runAndLog 64 = .ok (.istore 9, 2) := by decide +kernel
theorem dX3_runAndLog_66 : decode cX3_runAndLog 66 = .ok (.iload 9, 2) := by decide +kernel
theorem dX3_runAndLog_68 : decode cX3_runAndLog 68 = .ok (.aload 7, 2) := by decide +kernel
theorem dX3_runAndLog_70 : decode cX3_runAndLog 70 = .ok (.getfield 88, 3) := by decide +kernel
theorem dX3_runAndLog_73 : decode cX3_runAndLog 73 = .ok (.if_icmp .ge 58, 3) := by decide +kernel
theorem dX3_runAndLog_76 : decode cX3_runAndLog 76 = .ok (.aload 7, 2) := by decide +kernel
theorem dX3_runAndLog_78 : decode cX3_runAndLog 78 = .ok (.getfield 242, 3) := by decide +kernel
theorem dX3_runAndLog_81 : decode cX3_runAndLog 81 = .ok (.iload 9, 2) := by decide +kernel
theorem dX3_runAndLog_83 : decode cX3_runAndLog 83 = .ok (.iaload, 1) := by decide +kernel
theorem dX3_runAndLog_84 : decode cX3_runAndLog 84 = .ok (.istore 10, 2) := by decide +kernel
theorem dX3_runAndLog_86 : decode cX3_runAndLog 86 = .ok (.aload_n 0, 1) := by decide +kernel
theorem dX3_runAndLog_87 : decode cX3_runAndLog 87 = .ok (.getfield 9, 3) := by decide +kernel
theorem dX3_runAndLog_90 : decode cX3_runAndLog 90 = .ok (.iload 10, 2) := by decide +kernel
theorem dX3_runAndLog_92 : decode cX3_runAndLog 92 = .ok (.dup2, 1) := by decide +kernel
theorem dX3_runAndLog_93 : decode cX3_runAndLog 93 = .ok (.laload, 1) := by decide +kernel
theorem dX3_runAndLog_94 : decode cX3_runAndLog 94 = .ok (.aload_n 0, 1) := by decide +kernel
theorem dX3_runAndLog_95 : decode cX3_runAndLog 95 = .ok (.getfield 46, 3) := by decide +kernel
theorem dX3_runAndLog_98 : decode cX3_runAndLog 98 = .ok (.iload 9, 2) := by decide +kernel
theorem dX3_runAndLog_100 : decode cX3_runAndLog 100 = .ok (.laload, 1) := by decide +kernel
theorem dX3_runAndLog_101 : decode cX3_runAndLog 101 = .ok (.ladd, 1) := by decide +kernel
theorem dX3_runAndLog_102 : decode cX3_runAndLog 102 = .ok (.lastore, 1) := by decide +kernel
theorem dX3_runAndLog_103 : decode cX3_runAndLog 103 = .ok (.aload_n 0, 1) := by decide +kernel
theorem dX3_runAndLog_104 : decode cX3_runAndLog 104 = .ok (.getfield 43, 3) := by decide +kernel
theorem dX3_runAndLog_107 : decode cX3_runAndLog 107 = .ok (.iload 8, 2) := by decide +kernel
theorem dX3_runAndLog_109 : decode cX3_runAndLog 109 = .ok (.iconst 1, 1) := by decide +kernel
theorem dX3_runAndLog_110 : decode cX3_runAndLog 110 = .ok (.iadd, 1) := by decide +kernel
theorem dX3_runAndLog_111 : decode cX3_runAndLog 111 = .ok (.aaload, 1) := by decide +kernel
theorem dX3_runAndLog_112 : decode cX3_runAndLog 112 = .ok (.iload 10, 2) := by decide +kernel
theorem dX3_runAndLog_114 : decode cX3_runAndLog 114 = .ok (.dup2, 1) := by decide +kernel
theorem dX3_runAndLog_115 : decode cX3_runAndLog 115 = .ok (.laload, 1) := by decide +kernel
theorem dX3_runAndLog_116 : decode cX3_runAndLog 116 = .ok (.aload_n 0, 1) := by decide +kernel
theorem dX3_runAndLog_117 : decode cX3_runAndLog 117 = .ok (.getfield 46, 3) := by decide +kernel
theorem dX3_runAndLog_120 : decode cX3_runAndLog 120 = .ok (.iload 9, 2) := by decide +kernel
theorem dX3_runAndLog_122 : decode cX3_runAndLog 122 = .ok (.laload, 1) := by decide +kernel
theorem dX3_runAndLog_123 : decode cX3_runAndLog 123 = .ok (.ladd, 1) := by decide +kernel
theorem dX3_runAndLog_124 : decode cX3_runAndLog 124 = .ok (.lastore, 1) := by decide +kernel
theorem dX3_runAndLog_125 : decode cX3_runAndLog 125 = .ok (.iinc 9 1, 3) := by decide +kernel
theorem dX3_runAndLog_128 : decode cX3_runAndLog 128 = .ok (.goto (-62), 3) := by decide +kernel
theorem dX3_runAndLog_131 : decode cX3_runAndLog 131 = .ok (.aload_n 0, 1) := by decide +kernel
theorem dX3_runAndLog_132 : decode cX3_runAndLog 132 = .ok (.getfield 34, 3) := by decide +kernel
theorem dX3_runAndLog_135 : decode cX3_runAndLog 135 = .ok (.iload 8, 2) := by decide +kernel
theorem dX3_runAndLog_137 : decode cX3_runAndLog 137 = .ok (.aaload, 1) := by decide +kernel
theorem dX3_runAndLog_138 : decode cX3_runAndLog 138 = .ok (.iload_n 1, 1) := by decide +kernel
theorem dX3_runAndLog_139 : decode cX3_runAndLog 139 = .ok (.lload_n 2, 1) := by decide +kernel
theorem dX3_runAndLog_140 : decode cX3_runAndLog 140 = .ok (.iload 4, 2) := by decide +kernel
theorem dX3_runAndLog_142 : decode cX3_runAndLog 142 = .ok (.iload 5, 2) := by decide +kernel
theorem dX3_runAndLog_144 : decode cX3_runAndLog 144 = .ok (.iload 6, 2) := by decide +kernel
theorem dX3_runAndLog_146 : decode cX3_runAndLog 146 = .ok (.invokevirtual 246, 3) := by decide +kernel
theorem dX3_runAndLog_149 : decode cX3_runAndLog 149 = .ok (.aload_n 0, 1) := by decide +kernel
theorem dX3_runAndLog_150 : decode cX3_runAndLog 150 = .ok (.dup, 1) := by decide +kernel
theorem dX3_runAndLog_151 : decode cX3_runAndLog 151 = .ok (.getfield 38, 3) := by decide +kernel
theorem dX3_runAndLog_154 : decode cX3_runAndLog 154 = .ok (.iconst 1, 1) := by decide +kernel
theorem dX3_runAndLog_155 : decode cX3_runAndLog 155 = .ok (.iadd, 1) := by decide +kernel
theorem dX3_runAndLog_156 : decode cX3_runAndLog 156 = .ok (.putfield 38, 3) := by decide +kernel
theorem dX3_runAndLog_159 : decode cX3_runAndLog 159 = .ok (.iload 8, 2) := by decide +kernel
theorem dX3_runAndLog_161 : decode cX3_runAndLog 161 = .ok (.ireturn, 1) := by decide +kernel
theorem dX3_negatePostings_0 : decode cX3_negatePostings 0 = .ok (.iconst 0, 1) := by decide +kernel
theorem dX3_negatePostings_1 : decode cX3_negatePostings 1 = .ok (.istore_n 1, 1) := by decide +kernel
theorem dX3_negatePostings_2 : decode cX3_negatePostings 2 = .ok (.iload_n 1, 1) := by decide +kernel
theorem dX3_negatePostings_3 : decode cX3_negatePostings 3 = .ok (.iconst 4, 1) := by decide +kernel
theorem dX3_negatePostings_4 : decode cX3_negatePostings 4 = .ok (.if_icmp .ge 22, 3) := by decide +kernel
theorem dX3_negatePostings_7 : decode cX3_negatePostings 7 = .ok (.aload_n 0, 1) := by decide +kernel
theorem dX3_negatePostings_8 : decode cX3_negatePostings 8 = .ok (.getfield 46, 3) := by decide +kernel
theorem dX3_negatePostings_11 : decode cX3_negatePostings 11 = .ok (.iload_n 1, 1) := by decide +kernel
theorem dX3_negatePostings_12 : decode cX3_negatePostings 12 = .ok (.aload_n 0, 1) := by decide +kernel
theorem dX3_negatePostings_13 : decode cX3_negatePostings 13 = .ok (.getfield 46, 3) := by decide +kernel
theorem dX3_negatePostings_16 : decode cX3_negatePostings 16 = .ok (.iload_n 1, 1) := by decide +kernel
theorem dX3_negatePostings_17 : decode cX3_negatePostings 17 = .ok (.laload, 1) := by decide +kernel
theorem dX3_negatePostings_18 : decode cX3_negatePostings 18 = .ok (.lneg, 1) := by decide +kernel
theorem dX3_negatePostings_19 : decode cX3_negatePostings 19 = .ok (.lastore, 1) := by decide +kernel
theorem dX3_negatePostings_20 : decode cX3_negatePostings 20 = .ok (.iinc 1 1, 3) := by decide +kernel
theorem dX3_negatePostings_23 : decode cX3_negatePostings 23 = .ok (.goto (-21), 3) := by decide +kernel
theorem dX3_negatePostings_26 : decode cX3_negatePostings 26 = .ok (.return_, 1) := by decide +kernel
theorem dX3_requireNoLineFails_0 : decode cX3_requireNoLineFails 0 = .ok (.iconst 0, 1) := by decide +kernel
theorem dX3_requireNoLineFails_1 : decode cX3_requireNoLineFails 1 = .ok (.istore_n 2, 1) := by decide +kernel
theorem dX3_requireNoLineFails_2 : decode cX3_requireNoLineFails 2 = .ok (.iload_n 2, 1) := by decide +kernel
theorem dX3_requireNoLineFails_3 : decode cX3_requireNoLineFails 3 = .ok (.aload_n 1, 1) := by decide +kernel
theorem dX3_requireNoLineFails_4 : decode cX3_requireNoLineFails 4 = .ok (.getfield 88, 3) := by decide +kernel
theorem dX3_requireNoLineFails_7 : decode cX3_requireNoLineFails 7 = .ok (.if_icmp .ge 74, 3) := by decide +kernel
theorem dX3_requireNoLineFails_10 : decode cX3_requireNoLineFails 10 = .ok (.aload_n 1, 1) := by decide +kernel
theorem dX3_requireNoLineFails_11 : decode cX3_requireNoLineFails 11 = .ok (.getfield 242, 3) := by decide +kernel
theorem dX3_requireNoLineFails_14 : decode cX3_requireNoLineFails 14 = .ok (.iload_n 2, 1) := by decide +kernel
theorem dX3_requireNoLineFails_15 : decode cX3_requireNoLineFails 15 = .ok (.iaload, 1) := by decide +kernel
theorem dX3_requireNoLineFails_16 : decode cX3_requireNoLineFails 16 = .ok (.istore_n 3, 1) := by decide +kernel
theorem dX3_requireNoLineFails_17 : decode cX3_requireNoLineFails 17 = .ok (.aload_n 0, 1) := by decide +kernel
theorem dX3_requireNoLineFails_18 : decode cX3_requireNoLineFails 18 = .ok (.getfield 9, 3) := by decide +kernel
theorem dX3_requireNoLineFails_21 : decode cX3_requireNoLineFails 21 = .ok (.iload_n 3, 1) := by decide +kernel
theorem dX3_requireNoLineFails_22 : decode cX3_requireNoLineFails 22 = .ok (.laload, 1) := by decide +kernel
theorem dX3_requireNoLineFails_23 : decode cX3_requireNoLineFails 23 = .ok (.lstore 4, 2) := by decide +kernel
theorem dX3_requireNoLineFails_25 : decode cX3_requireNoLineFails 25 = .ok (.lload 4, 2) := by decide +kernel
theorem dX3_requireNoLineFails_27 : decode cX3_requireNoLineFails 27 = .ok (.aload_n 0, 1) := by decide +kernel
theorem dX3_requireNoLineFails_28 : decode cX3_requireNoLineFails 28 = .ok (.getfield 46, 3) := by decide +kernel
theorem dX3_requireNoLineFails_31 : decode cX3_requireNoLineFails 31 = .ok (.iload_n 2, 1) := by decide +kernel
theorem dX3_requireNoLineFails_32 : decode cX3_requireNoLineFails 32 = .ok (.laload, 1) := by decide +kernel
theorem dX3_requireNoLineFails_33 : decode cX3_requireNoLineFails 33 = .ok (.ladd, 1) := by decide +kernel
theorem dX3_requireNoLineFails_34 : decode cX3_requireNoLineFails 34 = .ok (.lstore 6, 2) := by decide +kernel
theorem dX3_requireNoLineFails_36 : decode cX3_requireNoLineFails 36 = .ok (.lload 6, 2) := by decide +kernel
theorem dX3_requireNoLineFails_38 : decode cX3_requireNoLineFails 38 = .ok (.ldc2_w 249, 3) := by decide +kernel
theorem dX3_requireNoLineFails_41 : decode cX3_requireNoLineFails 41 = .ok (.lcmp, 1) := by decide +kernel
theorem dX3_requireNoLineFails_42 : decode cX3_requireNoLineFails 42 = .ok (.ifCond .gt 23, 3) := by decide +kernel
theorem dX3_requireNoLineFails_45 : decode cX3_requireNoLineFails 45 = .ok (.lload 6, 2) := by decide +kernel
theorem dX3_requireNoLineFails_47 : decode cX3_requireNoLineFails 47 = .ok (.aload_n 0, 1) := by decide +kernel
theorem dX3_requireNoLineFails_48 : decode cX3_requireNoLineFails 48 = .ok (.getfield 13, 3) := by decide +kernel
theorem dX3_requireNoLineFails_51 : decode cX3_requireNoLineFails 51 = .ok (.iload_n 3, 1) := by decide +kernel
theorem dX3_requireNoLineFails_52 : decode cX3_requireNoLineFails 52 = .ok (.laload, 1) := by decide +kernel
theorem dX3_requireNoLineFails_53 : decode cX3_requireNoLineFails 53 = .ok (.lcmp, 1) := by decide +kernel
theorem dX3_requireNoLineFails_54 : decode cX3_requireNoLineFails 54 = .ok (.ifCond .ge 21, 3) := by decide +kernel
theorem dX3_requireNoLineFails_57 : decode cX3_requireNoLineFails 57 = .ok (.lload 6, 2) := by decide +kernel
theorem dX3_requireNoLineFails_59 : decode cX3_requireNoLineFails 59 = .ok (.lload 4, 2) := by decide +kernel
theorem dX3_requireNoLineFails_61 : decode cX3_requireNoLineFails 61 = .ok (.lcmp, 1) := by decide +kernel
theorem dX3_requireNoLineFails_62 : decode cX3_requireNoLineFails 62 = .ok (.ifCond .ge 13, 3) := by decide +kernel
theorem dX3_requireNoLineFails_65 : decode cX3_requireNoLineFails 65 = .ok (.new 61, 3) := by decide +kernel
theorem dX3_requireNoLineFails_68 : decode cX3_requireNoLineFails 68 = .ok (.dup, 1) := by decide +kernel
theorem dX3_requireNoLineFails_69 : decode cX3_requireNoLineFails 69 = .ok (.ldc 251, 2) := by decide +kernel
theorem dX3_requireNoLineFails_71 : decode cX3_requireNoLineFails 71 = .ok (.invokespecial 65, 3) := by decide +kernel
theorem dX3_requireNoLineFails_74 : decode cX3_requireNoLineFails 74 = .ok (.athrow, 1) := by decide +kernel
theorem dX3_requireNoLineFails_75 : decode cX3_requireNoLineFails 75 = .ok (.iinc 2 1, 3) := by decide +kernel
theorem dX3_requireNoLineFails_78 : decode cX3_requireNoLineFails 78 = .ok (.goto (-76), 3) := by decide +kernel
theorem dX3_requireNoLineFails_81 : decode cX3_requireNoLineFails 81 = .ok (.return_, 1) := by decide +kernel
theorem dX3_countUnsoundBalances_0 : decode cX3_countUnsoundBalances 0 = .ok (.iconst 0, 1) := by decide +kernel
theorem dX3_countUnsoundBalances_1 : decode cX3_countUnsoundBalances 1 = .ok (.istore_n 1, 1) := by decide +kernel
theorem dX3_countUnsoundBalances_2 : decode cX3_countUnsoundBalances 2 = .ok (.iconst 0, 1) := by decide +kernel
theorem dX3_countUnsoundBalances_3 : decode cX3_countUnsoundBalances 3 = .ok (.istore_n 2, 1) := by decide +kernel
theorem dX3_countUnsoundBalances_4 : decode cX3_countUnsoundBalances 4 = .ok (.iload_n 2, 1) := by decide +kernel
theorem dX3_countUnsoundBalances_5 : decode cX3_countUnsoundBalances 5 = .ok (.bipush 8, 2) := by decide +kernel
theorem dX3_countUnsoundBalances_7 : decode cX3_countUnsoundBalances 7 = .ok (.if_icmp .ge 33, 3) := by decide +kernel
theorem dX3_countUnsoundBalances_10 : decode cX3_countUnsoundBalances 10 = .ok (.aload_n 0, 1) := by decide +kernel
theorem dX3_countUnsoundBalances_11 : decode cX3_countUnsoundBalances 11 = .ok (.getfield 9, 3) := by decide +kernel
theorem dX3_countUnsoundBalances_14 : decode cX3_countUnsoundBalances 14 = .ok (.iload_n 2, 1) := by decide +kernel
theorem dX3_countUnsoundBalances_15 : decode cX3_countUnsoundBalances 15 = .ok (.laload, 1) := by decide +kernel
theorem dX3_countUnsoundBalances_16 : decode cX3_countUnsoundBalances 16 = .ok (.aload_n 0, 1) := by decide +kernel
theorem dX3_countUnsoundBalances_17 : decode cX3_countUnsoundBalances 17 = .ok (.getfield 43, 3) := by decide +kernel
theorem dX3_countUnsoundBalances_20 : decode cX3_countUnsoundBalances 20 = .ok (.aload_n 0, 1) := by decide +kernel
theorem dX3_countUnsoundBalances_21 : decode cX3_countUnsoundBalances 21 = .ok (.getfield 38, 3) := by decide +kernel
theorem dX3_countUnsoundBalances_24 : decode cX3_countUnsoundBalances 24 = .ok (.aaload, 1) := by decide +kernel
theorem dX3_countUnsoundBalances_25 : decode cX3_countUnsoundBalances 25 = .ok (.iload_n 2, 1) := by decide +kernel
theorem dX3_countUnsoundBalances_26 : decode cX3_countUnsoundBalances 26 = .ok (.laload, 1) := by decide +kernel
theorem dX3_countUnsoundBalances_27 : decode cX3_countUnsoundBalances 27 = .ok (.lcmp, 1) := by decide +kernel
theorem dX3_countUnsoundBalances_28 : decode cX3_countUnsoundBalances 28 = .ok (.ifCond .eq 6, 3) := by decide +kernel
theorem dX3_countUnsoundBalances_31 : decode cX3_countUnsoundBalances 31 = .ok (.iinc 1 1, 3) := by decide +kernel
theorem dX3_countUnsoundBalances_34 : decode cX3_countUnsoundBalances 34 = .ok (.iinc 2 1, 3) := by decide +kernel
theorem dX3_countUnsoundBalances_37 : decode cX3_countUnsoundBalances 37 = .ok (.goto (-33), 3) := by decide +kernel
theorem dX3_countUnsoundBalances_40 : decode cX3_countUnsoundBalances 40 = .ok (.iload_n 1, 1) := by decide +kernel
theorem dX3_countUnsoundBalances_41 : decode cX3_countUnsoundBalances 41 = .ok (.ireturn, 1) := by decide +kernel
theorem dX3_requireBooksTakeRun_0 : decode cX3_requireBooksTakeRun 0 = .ok (.aload_n 0, 1) := by decide +kernel
theorem dX3_requireBooksTakeRun_1 : decode cX3_requireBooksTakeRun 1 = .ok (.invokevirtual 191, 3) := by decide +kernel
theorem dX3_requireBooksTakeRun_4 : decode cX3_requireBooksTakeRun 4 = .ok (.ifCond .eq 13, 3) := by decide +kernel
theorem dX3_requireBooksTakeRun_7 : decode cX3_requireBooksTakeRun 7 = .ok (.new 61, 3) := by decide +kernel
theorem dX3_requireBooksTakeRun_10 : decode cX3_requireBooksTakeRun 10 = .ok (.dup, 1) := by decide +kernel
theorem dX3_requireBooksTakeRun_11 : decode cX3_requireBooksTakeRun 11 = .ok (.ldc 253, 2) := by decide +kernel
theorem dX3_requireBooksTakeRun_13 : decode cX3_requireBooksTakeRun 13 = .ok (.invokespecial 65, 3) := by decide +kernel
theorem dX3_requireBooksTakeRun_16 : decode cX3_requireBooksTakeRun 16 = .ok (.athrow, 1) := by decide +kernel
theorem dX3_requireBooksTakeRun_17 : decode cX3_requireBooksTakeRun 17 = .ok (.aload_n 0, 1) := by decide +kernel
theorem dX3_requireBooksTakeRun_18 : decode cX3_requireBooksTakeRun 18 = .ok (.getfield 38, 3) := by decide +kernel
theorem dX3_requireBooksTakeRun_21 : decode cX3_requireBooksTakeRun 21 = .ok (.bipush 40, 2) := by decide +kernel
theorem dX3_requireBooksTakeRun_23 : decode cX3_requireBooksTakeRun 23 = .ok (.if_icmp .lt 13, 3) := by decide +kernel
theorem dX3_requireBooksTakeRun_26 : decode cX3_requireBooksTakeRun 26 = .ok (.new 61, 3) := by decide +kernel
theorem dX3_requireBooksTakeRun_29 : decode cX3_requireBooksTakeRun 29 = .ok (.dup, 1) := by decide +kernel
theorem dX3_requireBooksTakeRun_30 : decode cX3_requireBooksTakeRun 30 = .ok (.ldc 255, 2) := by decide +kernel
theorem dX3_requireBooksTakeRun_32 : decode cX3_requireBooksTakeRun 32 = .ok (.invokespecial 65, 3) := by decide +kernel
theorem dX3_requireBooksTakeRun_35 : decode cX3_requireBooksTakeRun 35 = .ok (.athrow, 1) := by decide +kernel
theorem dX3_requireBooksTakeRun_36 : decode cX3_requireBooksTakeRun 36 = .ok (.return_, 1) := by decide +kernel
theorem dX3_requireMayRun_0 : decode cX3_requireMayRun 0 = .ok (.aload_n 0, 1) := by decide +kernel
theorem dX3_requireMayRun_1 : decode cX3_requireMayRun 1 = .ok (.iload_n 1, 1) := by decide +kernel
theorem dX3_requireMayRun_2 : decode cX3_requireMayRun 2 = .ok (.iload_n 2, 1) := by decide +kernel
theorem dX3_requireMayRun_3 : decode cX3_requireMayRun 3 = .ok (.invokevirtual 212, 3) := by decide +kernel
theorem dX3_requireMayRun_6 : decode cX3_requireMayRun 6 = .ok (.ifCond .ne 14, 3) := by decide +kernel
theorem dX3_requireMayRun_9 : decode cX3_requireMayRun 9 = .ok (.new 108, 3) := by decide +kernel
theorem dX3_requireMayRun_12 : decode cX3_requireMayRun 12 = .ok (.dup, 1) := by decide +kernel
theorem dX3_requireMayRun_13 : decode cX3_requireMayRun 13 = .ok (.ldc_w 257, 3) := by decide +kernel
theorem dX3_requireMayRun_16 : decode cX3_requireMayRun 16 = .ok (.invokespecial 112, 3) := by decide +kernel
theorem dX3_requireMayRun_19 : decode cX3_requireMayRun 19 = .ok (.athrow, 1) := by decide +kernel
theorem dX3_requireMayRun_20 : decode cX3_requireMayRun 20 = .ok (.return_, 1) := by decide +kernel
theorem dX3_requireProcedure_0 : decode cX3_requireProcedure 0 = .ok (.aload_n 0, 1) := by decide +kernel
theorem dX3_requireProcedure_1 : decode cX3_requireProcedure 1 = .ok (.iload_n 1, 1) := by decide +kernel
theorem dX3_requireProcedure_2 : decode cX3_requireProcedure 2 = .ok (.invokevirtual 209, 3) := by decide +kernel
theorem dX3_requireProcedure_5 : decode cX3_requireProcedure 5 = .ok (.ifCond .ne 14, 3) := by decide +kernel
theorem dX3_requireProcedure_8 : decode cX3_requireProcedure 8 = .ok (.new 194, 3) := by decide +kernel
theorem dX3_requireProcedure_11 : decode cX3_requireProcedure 11 = .ok (.dup, 1) := by decide +kernel
theorem dX3_requireProcedure_12 : decode cX3_requireProcedure 12 = .ok (.ldc_w 259, 3) := by decide +kernel
theorem dX3_requireProcedure_15 : decode cX3_requireProcedure 15 = .ok (.invokespecial 198, 3) := by decide +kernel
theorem dX3_requireProcedure_18 : decode cX3_requireProcedure 18 = .ok (.athrow, 1) := by decide +kernel
theorem dX3_requireProcedure_19 : decode cX3_requireProcedure 19 = .ok (.return_, 1) := by decide +kernel
theorem dX3_requireRequest_0 : decode cX3_requireRequest 0 = .ok (.iload_n 1, 1) := by decide +kernel
theorem dX3_requireRequest_1 : decode cX3_requireRequest 1 = .ok (.ifCond .lt 21, 3) := by decide +kernel
theorem dX3_requireRequest_4 : decode cX3_requireRequest 4 = .ok (.iload_n 1, 1) := by decide +kernel
theorem dX3_requireRequest_5 : decode cX3_requireRequest 5 = .ok (.bipush 6, 2) := by decide +kernel
theorem dX3_requireRequest_7 : decode cX3_requireRequest 7 = .ok (.if_icmp .ge 15, 3) := by decide +kernel
theorem dX3_requireRequest_10 : decode cX3_requireRequest 10 = .ok (.aload_n 0, 1) := by decide +kernel
theorem dX3_requireRequest_11 : decode cX3_requireRequest 11 = .ok (.getfield 28, 3) := by decide +kernel
theorem dX3_requireRequest_14 : decode cX3_requireRequest 14 = .ok (.iload_n 1, 1) := by decide +kernel
theorem dX3_requireRequest_15 : decode cX3_requireRequest 15 = .ok (.aaload, 1) := by decide +kernel
theorem dX3_requireRequest_16 : decode cX3_requireRequest 16 = .ok (.invokevirtual 216, 3) := by decide +kernel
theorem dX3_requireRequest_19 : decode cX3_requireRequest 19 = .ok (.ifCond .ne 14, 3) := by decide +kernel
theorem dX3_requireRequest_22 : decode cX3_requireRequest 22 = .ok (.new 194, 3) := by decide +kernel
theorem dX3_requireRequest_25 : decode cX3_requireRequest 25 = .ok (.dup, 1) := by decide +kernel
theorem dX3_requireRequest_26 : decode cX3_requireRequest 26 = .ok (.ldc_w 261, 3) := by decide +kernel
theorem dX3_requireRequest_29 : decode cX3_requireRequest 29 = .ok (.invokespecial 198, 3) := by decide +kernel
theorem dX3_requireRequest_32 : decode cX3_requireRequest 32 = .ok (.athrow, 1) := by decide +kernel
theorem dX3_requireRequest_33 : decode cX3_requireRequest 33 = .ok (.return_, 1) := by decide +kernel
theorem dX3_requireEntry_0 : decode cX3_requireEntry 0 = .ok (.iload_n 1, 1) := by decide +kernel
theorem dX3_requireEntry_1 : decode cX3_requireEntry 1 = .ok (.ifCond .lt 11, 3) := by decide +kernel
theorem dX3_requireEntry_4 : decode cX3_requireEntry 4 = .ok (.iload_n 1, 1) := by decide +kernel
theorem dX3_requireEntry_5 : decode cX3_requireEntry 5 = .ok (.aload_n 0, 1) := by decide +kernel
theorem dX3_requireEntry_6 : decode cX3_requireEntry 6 = .ok (.getfield 38, 3) := by decide +kernel
theorem dX3_requireEntry_9 : decode cX3_requireEntry 9 = .ok (.if_icmp .lt 14, 3) := by decide +kernel
theorem dX3_requireEntry_12 : decode cX3_requireEntry 12 = .ok (.new 194, 3) := by decide +kernel
theorem dX3_requireEntry_15 : decode cX3_requireEntry 15 = .ok (.dup, 1) := by decide +kernel
theorem dX3_requireEntry_16 : decode cX3_requireEntry 16 = .ok (.ldc_w 263, 3) := by decide +kernel
theorem dX3_requireEntry_19 : decode cX3_requireEntry 19 = .ok (.invokespecial 198, 3) := by decide +kernel
theorem dX3_requireEntry_22 : decode cX3_requireEntry 22 = .ok (.athrow, 1) := by decide +kernel
theorem dX3_requireEntry_23 : decode cX3_requireEntry 23 = .ok (.return_, 1) := by decide +kernel
theorem dX3_isProcedure_0 : decode cX3_isProcedure 0 = .ok (.iload_n 1, 1) := by decide +kernel
theorem dX3_isProcedure_1 : decode cX3_isProcedure 1 = .ok (.ifCond .lt 15, 3) := by decide +kernel
theorem dX3_isProcedure_4 : decode cX3_isProcedure 4 = .ok (.iload_n 1, 1) := by decide +kernel
theorem dX3_isProcedure_5 : decode cX3_isProcedure 5 = .ok (.aload_n 0, 1) := by decide +kernel
theorem dX3_isProcedure_6 : decode cX3_isProcedure 6 = .ok (.getfield 22, 3) := by decide +kernel
theorem dX3_isProcedure_9 : decode cX3_isProcedure 9 = .ok (.if_icmp .ge 7, 3) := by decide +kernel
theorem dX3_isProcedure_12 : decode cX3_isProcedure 12 = .ok (.iconst 1, 1) := by decide +kernel
theorem dX3_isProcedure_13 : decode cX3_isProcedure 13 = .ok (.goto 4, 3) := by decide +kernel
theorem dX3_isProcedure_16 : decode cX3_isProcedure 16 = .ok (.iconst 0, 1) := by decide +kernel
theorem dX3_isProcedure_17 : decode cX3_isProcedure 17 = .ok (.ireturn, 1) := by decide +kernel
theorem dX3_isUser_0 : decode cX3_isUser 0 = .ok (.iload_n 0, 1) := by decide +kernel
theorem dX3_isUser_1 : decode cX3_isUser 1 = .ok (.ifCond .lt 13, 3) := by decide +kernel
theorem dX3_isUser_4 : decode cX3_isUser 4 = .ok (.iload_n 0, 1) := by decide +kernel
theorem dX3_isUser_5 : decode cX3_isUser 5 = .ok (.bipush 8, 2) := by decide +kernel
theorem dX3_isUser_7 : decode cX3_isUser 7 = .ok (.if_icmp .ge 7, 3) := by decide +kernel
theorem dX3_isUser_10 : decode cX3_isUser 10 = .ok (.iconst 1, 1) := by decide +kernel
theorem dX3_isUser_11 : decode cX3_isUser 11 = .ok (.goto 4, 3) := by decide +kernel
theorem dX3_isUser_14 : decode cX3_isUser 14 = .ok (.iconst 0, 1) := by decide +kernel
theorem dX3_isUser_15 : decode cX3_isUser 15 = .ok (.ireturn, 1) := by decide +kernel
theorem dX3_isBeyondLimit_0 : decode cX3_isBeyondLimit 0 = .ok (.lload_n 0, 1) := by decide +kernel
theorem dX3_isBeyondLimit_1 : decode cX3_isBeyondLimit 1 = .ok (.ldc2_w 49, 3) := by decide +kernel
theorem dX3_isBeyondLimit_4 : decode cX3_isBeyondLimit 4 = .ok (.lcmp, 1) := by decide +kernel
theorem dX3_isBeyondLimit_5 : decode cX3_isBeyondLimit 5 = .ok (.ifCond .lt 11, 3) := by decide +kernel
theorem dX3_isBeyondLimit_8 : decode cX3_isBeyondLimit 8 = .ok (.lload_n 0, 1) := by decide +kernel
theorem dX3_isBeyondLimit_9 : decode cX3_isBeyondLimit 9 = .ok (.ldc2_w 249, 3) := by decide +kernel
theorem dX3_isBeyondLimit_12 : decode cX3_isBeyondLimit 12 = .ok (.lcmp, 1) := by decide +kernel
theorem dX3_isBeyondLimit_13 : decode cX3_isBeyondLimit 13 = .ok (.ifCond .le 7, 3) := by decide +kernel
theorem dX3_isBeyondLimit_16 : decode cX3_isBeyondLimit 16 = .ok (.iconst 1, 1) := by decide +kernel
theorem dX3_isBeyondLimit_17 : decode cX3_isBeyondLimit 17 = .ok (.goto 4, 3) := by decide +kernel
theorem dX3_isBeyondLimit_20 : decode cX3_isBeyondLimit 20 = .ok (.iconst 0, 1) := by decide +kernel
theorem dX3_isBeyondLimit_21 : decode cX3_isBeyondLimit 21 = .ok (.ireturn, 1) := by decide +kernel
theorem dX3_requireAccount_0 : decode cX3_requireAccount 0 = .ok (.iload_n 0, 1) := by decide +kernel
theorem dX3_requireAccount_1 : decode cX3_requireAccount 1 = .ok (.ifCond .lt 9, 3) := by decide +kernel
theorem dX3_requireAccount_4 : decode cX3_requireAccount 4 = .ok (.iload_n 0, 1) := by decide +kernel
theorem dX3_requireAccount_5 : decode cX3_requireAccount 5 = .ok (.bipush 8, 2) := by decide +kernel
theorem dX3_requireAccount_7 : decode cX3_requireAccount 7 = .ok (.if_icmp .lt 14, 3) := by decide +kernel
theorem dX3_requireAccount_10 : decode cX3_requireAccount 10 = .ok (.new 194, 3) := by decide +kernel
theorem dX3_requireAccount_13 : decode cX3_requireAccount 13 = .ok (.dup, 1) := by decide +kernel
theorem dX3_requireAccount_14 : decode cX3_requireAccount 14 = .ok (.ldc_w 265, 3) := by decide +kernel
theorem dX3_requireAccount_17 : decode cX3_requireAccount 17 = .ok (.invokespecial 198, 3) := by decide +kernel
theorem dX3_requireAccount_20 : decode cX3_requireAccount 20 = .ok (.athrow, 1) := by decide +kernel
theorem dX3_requireAccount_21 : decode cX3_requireAccount 21 = .ok (.return_, 1) := by decide +kernel
theorem dX3_requireUser_0 : decode cX3_requireUser 0 = .ok (.iload_n 0, 1) := by decide +kernel
theorem dX3_requireUser_1 : decode cX3_requireUser 1 = .ok (.invokestatic 206, 3) := by decide +kernel
theorem dX3_requireUser_4 : decode cX3_requireUser 4 = .ok (.ifCond .ne 14, 3) := by decide +kernel
theorem dX3_requireUser_7 : decode cX3_requireUser 7 = .ok (.new 194, 3) := by decide +kernel
theorem dX3_requireUser_10 : decode cX3_requireUser 10 = .ok (.dup, 1) := by decide +kernel
theorem dX3_requireUser_11 : decode cX3_requireUser 11 = .ok (.ldc_w 267, 3) := by decide +kernel
theorem dX3_requireUser_14 : decode cX3_requireUser 14 = .ok (.invokespecial 198, 3) := by decide +kernel
theorem dX3_requireUser_17 : decode cX3_requireUser 17 = .ok (.athrow, 1) := by decide +kernel
theorem dX3_requireUser_18 : decode cX3_requireUser 18 = .ok (.return_, 1) := by decide +kernel
theorem dX3_requireOfficer_0 : decode cX3_requireOfficer 0 = .ok (.iload_n 0, 1) := by decide +kernel
theorem dX3_requireOfficer_1 : decode cX3_requireOfficer 1 = .ok (.iconst 2, 1) := by decide +kernel
theorem dX3_requireOfficer_2 : decode cX3_requireOfficer 2 = .ok (.if_icmp .lt 14, 3) := by decide +kernel
theorem dX3_requireOfficer_5 : decode cX3_requireOfficer 5 = .ok (.new 108, 3) := by decide +kernel
theorem dX3_requireOfficer_8 : decode cX3_requireOfficer 8 = .ok (.dup, 1) := by decide +kernel
theorem dX3_requireOfficer_9 : decode cX3_requireOfficer 9 = .ok (.ldc_w 269, 3) := by decide +kernel
theorem dX3_requireOfficer_12 : decode cX3_requireOfficer 12 = .ok (.invokespecial 112, 3) := by decide +kernel
theorem dX3_requireOfficer_15 : decode cX3_requireOfficer 15 = .ok (.athrow, 1) := by decide +kernel
theorem dX3_requireOfficer_16 : decode cX3_requireOfficer 16 = .ok (.return_, 1) := by decide +kernel
theorem dX3_requireShare_0 : decode cX3_requireShare 0 = .ok (.iload_n 0, 1) := by decide +kernel
theorem dX3_requireShare_1 : decode cX3_requireShare 1 = .ok (.bipush (-100), 2) := by decide +kernel
theorem dX3_requireShare_3 : decode cX3_requireShare 3 = .ok (.if_icmp .lt 13, 3) := by decide +kernel
theorem dX3_requireShare_6 : decode cX3_requireShare 6 = .ok (.iload_n 0, 1) := by decide +kernel
theorem dX3_requireShare_7 : decode cX3_requireShare 7 = .ok (.bipush 100, 2) := by decide +kernel
theorem dX3_requireShare_9 : decode cX3_requireShare 9 = .ok (.if_icmp .gt 7, 3) := by decide +kernel
theorem dX3_requireShare_12 : decode cX3_requireShare 12 = .ok (.iload_n 0, 1) := by decide +kernel
theorem dX3_requireShare_13 : decode cX3_requireShare 13 = .ok (.ifCond .ne 14, 3) := by decide +kernel
theorem dX3_requireShare_16 : decode cX3_requireShare 16 = .ok (.new 79, 3) := by decide +kernel
theorem dX3_requireShare_19 : decode cX3_requireShare 19 = .ok (.dup, 1) := by decide +kernel
theorem dX3_requireShare_20 : decode cX3_requireShare 20 = .ok (.ldc_w 271, 3) := by decide +kernel
theorem dX3_requireShare_23 : decode cX3_requireShare 23 = .ok (.invokespecial 83, 3) := by decide +kernel
theorem dX3_requireShare_26 : decode cX3_requireShare 26 = .ok (.athrow, 1) := by decide +kernel
theorem dX3_requireShare_27 : decode cX3_requireShare 27 = .ok (.return_, 1) := by decide +kernel
end
section
theorem dX4_init_0 : decode cX4_init 0 = .ok (.aload_n 0, 1) := by decide +kernel
theorem dX4_init_1 : decode cX4_init 1 = .ok (.invokespecial 1, 3) := by decide +kernel
theorem dX4_init_4 : decode cX4_init 4 = .ok (.aload_n 0, 1) := by decide +kernel
theorem dX4_init_5 : decode cX4_init 5 = .ok (.bipush 8, 2) := by decide +kernel
theorem dX4_init_7 : decode cX4_init 7 = .ok (.newarray .long, 2) := by decide +kernel
theorem dX4_init_9 : decode cX4_init 9 = .ok (.putfield 7, 3) := by decide +kernel
theorem dX4_init_12 : decode cX4_init 12 = .ok (.aload_n 0, 1) := by decide +kernel
theorem dX4_init_13 : decode cX4_init 13 = .ok (.bipush 8, 2) := by decide +kernel
theorem dX4_init_15 : decode cX4_init 15 = .ok (.newarray .long, 2) := by decide +kernel
theorem dX4_init_17 : decode cX4_init 17 = .ok (.putfield 13, 3) := by decide +kernel
theorem dX4_init_20 : decode cX4_init 20 = .ok (.aload_n 0, 1) := by decide +kernel
theorem dX4_init_21 : decode cX4_init 21 = .ok (.bipush 10, 2) := by decide +kernel
theorem dX4_init_23 : decode cX4_init 23 = .ok (.newarray .int, 2) := by decide +kernel
theorem dX4_init_25 : decode cX4_init 25 = .ok (.putfield 16, 3) := by decide +kernel
theorem dX4_init_28 : decode cX4_init 28 = .ok (.aload_n 0, 1) := by decide +kernel
theorem dX4_init_29 : decode cX4_init 29 = .ok (.bipush 10, 2) := by decide +kernel
theorem dX4_init_31 : decode cX4_init 31 = .ok (.newarray .int, 2) := by decide +kernel
theorem dX4_init_33 : decode cX4_init 33 = .ok (.putfield 20, 3) := by decide +kernel
theorem dX4_init_36 : decode cX4_init 36 = .ok (.aload_n 0, 1) := by decide +kernel
theorem dX4_init_37 : decode cX4_init 37 = .ok (.bipush 40, 2) := by decide +kernel
theorem dX4_init_39 : decode cX4_init 39 = .ok (.newarray .int, 2) := by decide +kernel
theorem dX4_init_41 : decode cX4_init 41 = .ok (.putfield 23, 3) := by decide +kernel
theorem dX4_init_44 : decode cX4_init 44 = .ok (.aload_n 0, 1) := by decide +kernel
theorem dX4_init_45 : decode cX4_init 45 = .ok (.bipush 40, 2) := by decide +kernel
theorem dX4_init_47 : decode cX4_init 47 = .ok (.newarray .int, 2) := by decide +kernel
theorem dX4_init_49 : decode cX4_init 49 = .ok (.putfield 26, 3) := by decide +kernel
theorem dX4_init_52 : decode cX4_init 52 = .ok (.aload_n 0, 1) := by decide +kernel
theorem dX4_init_53 : decode cX4_init 53 = .ok (.bipush 80, 2) := by decide +kernel
theorem dX4_init_55 : decode cX4_init 55 = .ok (.newarray .boolean, 2) := by decide +kernel
theorem dX4_init_57 : decode cX4_init 57 = .ok (.putfield 29, 3) := by decide +kernel
theorem dX4_init_60 : decode cX4_init 60 = .ok (.aload_n 0, 1) := by decide +kernel
theorem dX4_init_61 : decode cX4_init 61 = .ok (.bipush 40, 2) := by decide +kernel
theorem dX4_init_63 : decode cX4_init 63 = .ok (.newarray .int, 2) := by decide +kernel
theorem dX4_init_65 : decode cX4_init 65 = .ok (.putfield 33, 3) := by decide +kernel
theorem dX4_init_68 : decode cX4_init 68 = .ok (.aload_n 0, 1) := by decide +kernel
theorem dX4_init_69 : decode cX4_init 69 = .ok (.bipush 40, 2) := by decide +kernel
theorem dX4_init_71 : decode cX4_init 71 = .ok (.newarray .long, 2) := by decide +kernel
theorem dX4_init_73 : decode cX4_init 73 = .ok (.putfield 36, 3) := by decide +kernel
theorem dX4_init_76 : decode cX4_init 76 = .ok (.aload_n 0, 1) := by decide +kernel
theorem dX4_init_77 : decode cX4_init 77 = .ok (.bipush 40, 2) := by decide +kernel
theorem dX4_init_79 : decode cX4_init 79 = .ok (.newarray .int, 2) := by decide +kernel
theorem dX4_init_81 : decode cX4_init 81 = .ok (.putfield 39, 3) := by decide +kernel
theorem dX4_init_84 : decode cX4_init 84 = .ok (.aload_n 0, 1) := by decide +kernel
theorem dX4_init_85 : decode cX4_init 85 = .ok (.bipush 40, 2) := by decide +kernel
theorem dX4_init_87 : decode cX4_init 87 = .ok (.newarray .int, 2) := by decide +kernel
theorem dX4_init_89 : decode cX4_init 89 = .ok (.putfield 42, 3) := by decide +kernel
theorem dX4_init_92 : decode cX4_init 92 = .ok (.aload_n 0, 1) := by decide +kernel
theorem dX4_init_93 : decode cX4_init 93 = .ok (.bipush 40, 2) := by decide +kernel
theorem dX4_init_95 : decode cX4_init 95 = .ok (.newarray .int, 2) := by decide +kernel
theorem dX4_init_97 : decode cX4_init 97 = .ok (.putfield 45, 3) := by decide +kernel
theorem dX4_init_100 : decode cX4_init 100 = .ok (.aload_n 0, 1) := by decide +kernel
theorem dX4_init_101 : decode cX4_init 101 = .ok (.bipush 40, 2) := by decide +kernel
theorem dX4_init_103 : decode cX4_init 103 = .ok (.newarray .int, 2) := by decide +kernel
theorem dX4_init_105 : decode cX4_init 105 = .ok (.putfield 48, 3) := by decide +kernel
theorem dX4_init_108 : decode cX4_init 108 = .ok (.aload_n 0, 1) := by decide +kernel
theorem dX4_init_109 : decode cX4_init 109 = .ok (.bipush 6, 2) := by decide +kernel
theorem dX4_init_111 : decode cX4_init 111 = .ok (.newarray .int, 2) := by decide +kernel
theorem dX4_init_113 : decode cX4_init 113 = .ok (.putfield 51, 3) := by decide +kernel
theorem dX4_init_116 : decode cX4_init 116 = .ok (.aload_n 0, 1) := by decide +kernel
theorem dX4_init_117 : decode cX4_init 117 = .ok (.bipush 6, 2) := by decide +kernel
theorem dX4_init_119 : decode cX4_init 119 = .ok (.newarray .int, 2) := by decide +kernel
theorem dX4_init_121 : decode cX4_init 121 = .ok (.putfield 54, 3) := by decide +kernel
theorem dX4_init_124 : decode cX4_init 124 = .ok (.aload_n 0, 1) := by decide +kernel
theorem dX4_init_125 : decode cX4_init 125 = .ok (.bipush 6, 2) := by decide +kernel
theorem dX4_init_127 : decode cX4_init 127 = .ok (.newarray .long, 2) := by decide +kernel
theorem dX4_init_129 : decode cX4_init 129 = .ok (.putfield 57, 3) := by decide +kernel
theorem dX4_init_132 : decode cX4_init 132 = .ok (.aload_n 0, 1) := by decide +kernel
theorem dX4_init_133 : decode cX4_init 133 = .ok (.iconst 4, 1) := by decide +kernel
theorem dX4_init_134 : decode cX4_init 134 = .ok (.newarray .long, 2) := by decide +kernel
theorem dX4_init_136 : decode cX4_init 136 = .ok (.putfield 60, 3) := by decide +kernel
theorem dX4_init_139 : decode cX4_init 139 = .ok (.iconst 0, 1) := by decide +kernel
theorem dX4_init_140 : decode cX4_init 140 = .ok (.istore_n 1, 1) := by decide +kernel
theorem dX4_init_141 : decode cX4_init 141 = .ok (.iload_n 1, 1) := by decide +kernel
theorem dX4_init_142 : decode cX4_init 142 = .ok (.bipush 8, 2) := by decide +kernel
theorem dX4_init_144 : decode cX4_init 144 = .ok (.if_icmp .ge 18, 3) := by decide +kernel
theorem dX4_init_147 : decode cX4_init 147 = .ok (.aload_n 0, 1) := by decide +kernel
theorem dX4_init_148 : decode cX4_init 148 = .ok (.getfield 13, 3) := by decide +kernel
theorem dX4_init_151 : decode cX4_init 151 = .ok (.iload_n 1, 1) := by decide +kernel
theorem dX4_init_152 : decode cX4_init 152 = .ok (.ldc2_w 63, 3) := by decide +kernel
theorem dX4_init_155 : decode cX4_init 155 = .ok (.lastore, 1) := by decide +kernel
theorem dX4_init_156 : decode cX4_init 156 = .ok (.iinc 1 1, 3) := by decide +kernel
theorem dX4_init_159 : decode cX4_init 159 = .ok (.goto (-18), 3) := by decide +kernel
theorem dX4_init_162 : decode cX4_init 162 = .ok (.iconst 0, 1) := by decide +kernel
theorem dX4_init_163 : decode cX4_init 163 = .ok (.istore_n 1, 1) := by decide +kernel
theorem dX4_init_164 : decode cX4_init 164 = .ok (.iload_n 1, 1) := by decide +kernel
theorem dX4_init_165 : decode cX4_init 165 = .ok (.bipush 6, 2) := by decide +kernel
theorem dX4_init_167 : decode cX4_init 167 = .ok (.if_icmp .ge 16, 3) := by decide +kernel
theorem dX4_init_170 : decode cX4_init 170 = .ok (.aload_n 0, 1) := by decide +kernel
theorem dX4_init_171 : decode cX4_init 171 = .ok (.getfield 51, 3) := by decide +kernel
theorem dX4_init_174 : decode cX4_init 174 = .ok (.iload_n 1, 1) := by decide +kernel
theorem dX4_init_175 : decode cX4_init 175 = .ok (.iconst (-1), 1) := by decide +kernel
theorem dX4_init_176 : decode cX4_init 176 = .ok (.iastore, 1) := by decide +kernel
theorem dX4_init_177 : decode cX4_init 177 = .ok (.iinc 1 1, 3) := by decide +kernel
theorem dX4_init_180 : decode cX4_init 180 = .ok (.goto (-16), 3) := by decide +kernel
theorem dX4_init_183 : decode cX4_init 183 = .ok (.return_, 1) := by decide +kernel
theorem dX4_thrown_0 : decode cX4_thrown 0 = .ok (.aload_n 0, 1) := by decide +kernel
theorem dX4_thrown_1 : decode cX4_thrown 1 = .ok (.getfield 65, 3) := by decide +kernel
theorem dX4_thrown_4 : decode cX4_thrown 4 = .ok (.ireturn, 1) := by decide +kernel
theorem dX4_isOne_0 : decode cX4_isOne 0 = .ok (.iload_n 0, 1) := by decide +kernel
theorem dX4_isOne_1 : decode cX4_isOne 1 = .ok (.ifCond .lt 13, 3) := by decide +kernel
theorem dX4_isOne_4 : decode cX4_isOne 4 = .ok (.iload_n 0, 1) := by decide +kernel
theorem dX4_isOne_5 : decode cX4_isOne 5 = .ok (.bipush 7, 2) := by decide +kernel
theorem dX4_isOne_7 : decode cX4_isOne 7 = .ok (.if_icmp .gt 7, 3) := by decide +kernel
theorem dX4_isOne_10 : decode cX4_isOne 10 = .ok (.iconst 1, 1) := by decide +kernel
theorem dX4_isOne_11 : decode cX4_isOne 11 = .ok (.goto 4, 3) := by decide +kernel
theorem dX4_isOne_14 : decode cX4_isOne 14 = .ok (.iconst 0, 1) := by decide +kernel
theorem dX4_isOne_15 : decode cX4_isOne 15 = .ok (.ireturn, 1) := by decide +kernel
theorem dX4_isProcedure_0 : decode cX4_isProcedure 0 = .ok (.iload_n 1, 1) := by decide +kernel
theorem dX4_isProcedure_1 : decode cX4_isProcedure 1 = .ok (.ifCond .lt 15, 3) := by decide +kernel
theorem dX4_isProcedure_4 : decode cX4_isProcedure 4 = .ok (.iload_n 1, 1) := by decide +kernel
theorem dX4_isProcedure_5 : decode cX4_isProcedure 5 = .ok (.aload_n 0, 1) := by decide +kernel
theorem dX4_isProcedure_6 : decode cX4_isProcedure 6 = .ok (.getfield 69, 3) := by decide +kernel
theorem dX4_isProcedure_9 : decode cX4_isProcedure 9 = .ok (.if_icmp .ge 7, 3) := by decide +kernel
theorem dX4_isProcedure_12 : decode cX4_isProcedure 12 = .ok (.iconst 1, 1) := by decide +kernel
theorem dX4_isProcedure_13 : decode cX4_isProcedure 13 = .ok (.goto 4, 3) := by decide +kernel
theorem dX4_isProcedure_16 : decode cX4_isProcedure 16 = .ok (.iconst 0, 1) := by decide +kernel
theorem dX4_isProcedure_17 : decode cX4_isProcedure 17 = .ok (.ireturn, 1) := by decide +kernel
theorem dX4_isOfficer_0 : decode cX4_isOfficer 0 = .ok (.iload_n 0, 1) := by decide +kernel
theorem dX4_isOfficer_1 : decode cX4_isOfficer 1 = .ok (.ifCond .eq 8, 3) := by decide +kernel
theorem dX4_isOfficer_4 : decode cX4_isOfficer 4 = .ok (.iload_n 0, 1) := by decide +kernel
theorem dX4_isOfficer_5 : decode cX4_isOfficer 5 = .ok (.iconst 1, 1) := by decide +kernel
theorem dX4_isOfficer_6 : decode cX4_isOfficer 6 = .ok (.if_icmp .ne 7, 3) := by decide +kernel
theorem dX4_isOfficer_9 : decode cX4_isOfficer 9 = .ok (.iconst 1, 1) := by decide +kernel
theorem dX4_isOfficer_10 : decode cX4_isOfficer 10 = .ok (.goto 4, 3) := by decide +kernel
theorem dX4_isOfficer_13 : decode cX4_isOfficer 13 = .ok (.iconst 0, 1) := by decide +kernel
theorem dX4_isOfficer_14 : decode cX4_isOfficer 14 = .ok (.ireturn, 1) := by decide +kernel
theorem dX4_isShare_0 : decode cX4_isShare 0 = .ok (.iload_n 0, 1) := by decide +kernel
theorem dX4_isShare_1 : decode cX4_isShare 1 = .ok (.bipush (-100), 2) := by decide +kernel
theorem dX4_isShare_3 : decode cX4_isShare 3 = .ok (.if_icmp .lt 17, 3) := by decide +kernel
theorem dX4_isShare_6 : decode cX4_isShare 6 = .ok (.iload_n 0, 1) := by decide +kernel
theorem dX4_isShare_7 : decode cX4_isShare 7 = .ok (.bipush 100, 2) := by decide +kernel
theorem dX4_isShare_9 : decode cX4_isShare 9 = .ok (.if_icmp .gt 11, 3) := by decide +kernel
theorem dX4_isShare_12 : decode cX4_isShare 12 = .ok (.iload_n 0, 1) := by decide +kernel
theorem dX4_isShare_13 : decode cX4_isShare 13 = .ok (.ifCond .eq 7, 3) := by decide +kernel
theorem dX4_isShare_16 : decode cX4_isShare 16 = .ok (.iconst 1, 1) := by decide +kernel
theorem dX4_isShare_17 : decode cX4_isShare 17 = .ok (.goto 4, 3) := by decide +kernel
theorem dX4_isShare_20 : decode cX4_isShare 20 = .ok (.iconst 0, 1) := by decide +kernel
theorem dX4_isShare_21 : decode cX4_isShare 21 = .ok (.ireturn, 1) := by decide +kernel
theorem dX4_draw_0 : decode cX4_draw 0 = .ok (.aload_n 0, 1) := by decide +kernel
theorem dX4_draw_1 : decode cX4_draw 1 = .ok (.iload_n 1, 1) := by decide +kernel
theorem dX4_draw_2 : decode cX4_draw 2 = .ok (.invokestatic 72, 3) := by decide +kernel
theorem dX4_draw_5 : decode cX4_draw 5 = .ok (.ifCond .ne 7, 3) := by decide +kernel
theorem dX4_draw_8 : decode cX4_draw 8 = .ok (.iconst 1, 1) := by decide +kernel
theorem dX4_draw_9 : decode cX4_draw 9 = .ok (.goto 28, 3) := by decide +kernel
theorem dX4_draw_12 : decode cX4_draw 12 = .ok (.iload_n 2, 1) := by decide +kernel
theorem dX4_draw_13 : decode cX4_draw 13 = .ok (.invokestatic 76, 3) := by decide +kernel
theorem dX4_draw_16 : decode cX4_draw 16 = .ok (.ifCond .ne 7, 3) := by decide +kernel
theorem dX4_draw_19 : decode cX4_draw 19 = .ok (.iconst 2, 1) := by decide +kernel
theorem dX4_draw_20 : decode cX4_draw 20 = .ok (.goto 17, 3) := by decide +kernel
theorem dX4_draw_23 : decode cX4_draw 23 = .ok (.aload_n 0, 1) := by decide +kernel
theorem dX4_draw_24 : decode cX4_draw 24 = .ok (.getfield 69, 3) := by decide +kernel
theorem dX4_draw_27 : decode cX4_draw 27 = .ok (.bipush 10, 2) := by decide +kernel
theorem dX4_draw_29 : decode cX4_draw 29 = .ok (.if_icmp .ne 7, 3) := by decide +kernel
theorem dX4_draw_32 : decode cX4_draw 32 = .ok (.iconst 3, 1) := by decide +kernel
theorem dX4_draw_33 : decode cX4_draw 33 = .ok (.goto 4, 3) := by decide +kernel
theorem dX4_draw_36 : decode cX4_draw 36 = .ok (.iconst 0, 1) := by decide +kernel
theorem dX4_draw_37 : decode cX4_draw 37 = .ok (.putfield 65, 3) := by decide +kernel
theorem dX4_draw_40 : decode cX4_draw 40 = .ok (.aload_n 0, 1) := by decide +kernel
theorem dX4_draw_41 : decode cX4_draw 41 = .ok (.getfield 65, 3) := by decide +kernel
theorem dX4_draw_44 : decode cX4_draw 44 = .ok (.ifCond .le 5, 3) := by decide +kernel
theorem dX4_draw_47 : decode cX4_draw 47 = .ok (.iconst 0, 1) := by decide +kernel
theorem dX4_draw_48 : decode cX4_draw 48 = .ok (.ireturn, 1) := by decide +kernel
theorem dX4_draw_49 : decode cX4_draw 49 = .ok (.aload_n 0, 1) := by decide +kernel
theorem dX4_draw_50 : decode cX4_draw 50 = .ok (.getfield 69, 3) := by decide +kernel
theorem dX4_draw_53 : decode cX4_draw 53 = .ok (.istore_n 3, 1) := by decide +kernel
theorem dX4_draw_54 : decode cX4_draw 54 = .ok (.aload_n 0, 1) := by decide +kernel
theorem dX4_draw_55 : decode cX4_draw 55 = .ok (.dup, 1) := by decide +kernel
theorem dX4_draw_56 : decode cX4_draw 56 = .ok (.getfield 69, 3) := by decide +kernel
theorem dX4_draw_59 : decode cX4_draw 59 = .ok (.iconst 1, 1) := by decide +kernel
theorem dX4_draw_60 : decode cX4_draw 60 = .ok (.iadd, 1) := by decide +kernel
theorem dX4_draw_61 : decode cX4_draw 61 = .ok (.putfield 69, 3) := by decide +kernel
theorem dX4_draw_64 : decode cX4_draw 64 = .ok (.aload_n 0, 1) := by decide +kernel
theorem dX4_draw_65 : decode cX4_draw 65 = .ok (.getfield 16, 3) := by decide +kernel
theorem dX4_draw_68 : decode cX4_draw 68 = .ok (.iload_n 3, 1) := by decide +kernel
theorem dX4_draw_69 : decode cX4_draw 69 = .ok (.iconst 1, 1) := by decide +kernel
theorem dX4_draw_70 : decode cX4_draw 70 = .ok (.iastore, 1) := by decide +kernel
theorem dX4_draw_71 : decode cX4_draw 71 = .ok (.aload_n 0, 1) := by decide +kernel
theorem dX4_draw_72 : decode cX4_draw 72 = .ok (.getfield 20, 3) := by decide +kernel
theorem dX4_draw_75 : decode cX4_draw 75 = .ok (.iload_n 3, 1) := by decide +kernel
theorem dX4_draw_76 : decode cX4_draw 76 = .ok (.iconst (-1), 1) := by decide +kernel
theorem dX4_draw_77 : decode cX4_draw 77 = .ok (.iastore, 1) := by decide +kernel
theorem dX4_draw_78 : decode cX4_draw 78 = .ok (.aload_n 0, 1) := by decide +kernel
theorem dX4_draw_79 : decode cX4_draw 79 = .ok (.getfield 23, 3) := by decide +kernel
theorem dX4_draw_82 : decode cX4_draw 82 = .ok (.iconst 4, 1) := by decide +kernel
theorem dX4_draw_83 : decode cX4_draw 83 = .ok (.iload_n 3, 1) := by decide +kernel
theorem dX4_draw_84 : decode cX4_draw 84 = .ok (.imul, 1) := by decide +kernel
theorem dX4_draw_85 : decode cX4_draw 85 = .ok (.iload_n 1, 1) := by decide +kernel
theorem dX4_draw_86 : decode cX4_draw 86 = .ok (.iastore, 1) := by decide +kernel
theorem dX4_draw_87 : decode cX4_draw 87 = .ok (.aload_n 0, 1) := by decide +kernel
theorem dX4_draw_88 : decode cX4_draw 88 = .ok (.getfield 26, 3) := by decide +kernel
theorem dX4_draw_91 : decode cX4_draw 91 = .ok (.iconst 4, 1) := by decide +kernel
theorem dX4_draw_92 : decode cX4_draw 92 = .ok (.iload_n 3, 1) := by decide +kernel
theorem dX4_draw_93 : decode cX4_draw 93 = .ok (.imul, 1) := by decide +kernel
theorem dX4_draw_94 : decode cX4_draw 94 = .ok (.iload_n 2, 1) := by decide +kernel
theorem dX4_draw_95 : decode cX4_draw 95 = .ok (.iastore, 1) := by decide +kernel
theorem dX4_draw_96 : decode cX4_draw 96 = .ok (.iload_n 3, 1) := by decide +kernel
theorem dX4_draw_97 : decode cX4_draw 97 = .ok (.ireturn, 1) := by decide +kernel
theorem dX4_hasLine_0 : decode cX4_hasLine 0 = .ok (.iconst 0, 1) := by decide +kernel
theorem dX4_hasLine_1 : decode cX4_hasLine 1 = .ok (.istore_n 3, 1) := by decide +kernel
theorem dX4_hasLine_2 : decode cX4_hasLine 2 = .ok (.iconst 0, 1) := by decide +kernel
theorem dX4_hasLine_3 : decode cX4_hasLine 3 = .ok (.istore 4, 2) := by decide +kernel
theorem dX4_hasLine_5 : decode cX4_hasLine 5 = .ok (.iload 4, 2) := by decide +kernel
theorem dX4_hasLine_7 : decode cX4_hasLine 7 = .ok (.aload_n 0, 1) := by decide +kernel
theorem dX4_hasLine_8 : decode cX4_hasLine 8 = .ok (.getfield 16, 3) := by decide +kernel
theorem dX4_hasLine_11 : decode cX4_hasLine 11 = .ok (.iload_n 1, 1) := by decide +kernel
theorem dX4_hasLine_12 : decode cX4_hasLine 12 = .ok (.iaload, 1) := by decide +kernel
theorem dX4_hasLine_13 : decode cX4_hasLine 13 = .ok (.if_icmp .ge 34, 3) := by decide +kernel
theorem dX4_hasLine_16 : decode cX4_hasLine 16 = .ok (.iload_n 3, 1) := by decide +kernel
theorem dX4_hasLine_17 : decode cX4_hasLine 17 = .ok (.ifCond .ne 18, 3) := by decide +kernel
theorem dX4_hasLine_20 : decode cX4_hasLine 20 = .ok (.aload_n 0, 1) := by decide +kernel
theorem dX4_hasLine_21 : decode cX4_hasLine 21 = .ok (.getfield 23, 3) := by decide +kernel
theorem dX4_hasLine_24 : decode cX4_hasLine 24 = .ok (.iconst 4, 1) := by decide +kernel
theorem dX4_hasLine_25 : decode cX4_hasLine 25 = .ok (.iload_n 1, 1) := by decide +kernel
theorem dX4_hasLine_26 : decode cX4_hasLine 26 = .ok (.imul, 1) := by decide +kernel
theorem dX4_hasLine_27 : decode cX4_hasLine 27 = .ok (.iload 4, 2) := by decide +kernel
theorem dX4_hasLine_29 : decode cX4_hasLine 29 = .ok (.iadd, 1) := by decide +kernel
theorem dX4_hasLine_30 : decode cX4_hasLine 30 = .ok (.iaload, 1) := by decide +kernel
theorem dX4_hasLine_31 : decode cX4_hasLine 31 = .ok (.iload_n 2, 1) := by decide +kernel
theorem dX4_hasLine_32 : decode cX4_hasLine 32 = .ok (.if_icmp .ne 7, 3) := by decide +kernel
theorem dX4_hasLine_35 : decode cX4_hasLine 35 = .ok (.iconst 1, 1) := by decide +kernel
theorem dX4_hasLine_36 : decode cX4_hasLine 36 = .ok (.goto 4, 3) := by decide +kernel
theorem dX4_hasLine_39 : decode cX4_hasLine 39 = .ok (.iconst 0, 1) := by decide +kernel
theorem dX4_hasLine_40 : decode cX4_hasLine 40 = .ok (.istore_n 3, 1) := by decide +kernel
theorem dX4_hasLine_41 : decode cX4_hasLine 41 = .ok (.iinc 4 1, 3) := by decide +kernel
theorem dX4_hasLine_44 : decode cX4_hasLine 44 = .ok (.goto (-39), 3) := by decide +kernel
theorem dX4_hasLine_47 : decode cX4_hasLine 47 = .ok (.iload_n 3, 1) := by decide +kernel
theorem dX4_hasLine_48 : decode cX4_hasLine 48 = .ok (.ireturn, 1) := by decide +kernel
theorem dX4_add_0 : decode cX4_add 0 = .ok (.aload_n 0, 1) := by decide +kernel
theorem dX4_add_1 : decode cX4_add 1 = .ok (.aload_n 0, 1) := by decide +kernel
theorem dX4_add_2 : decode cX4_add 2 = .ok (.iload_n 1, 1) := by decide +kernel
theorem dX4_add_3 : decode cX4_add 3 = .ok (.invokevirtual 79, 3) := by decide +kernel
theorem dX4_add_6 : decode cX4_add 6 = .ok (.ifCond .eq 10, 3) := by decide +kernel
theorem dX4_add_9 : decode cX4_add 9 = .ok (.iload_n 2, 1) := by decide +kernel
theorem dX4_add_10 : decode cX4_add 10 = .ok (.invokestatic 72, 3) := by decide +kernel
theorem dX4_add_13 : decode cX4_add 13 = .ok (.ifCond .ne 7, 3) := by decide +kernel
theorem dX4_add_16 : decode cX4_add 16 = .ok (.iconst 1, 1) := by decide +kernel
theorem dX4_add_17 : decode cX4_add 17 = .ok (.goto 4, 3) := by decide +kernel
theorem dX4_add_20 : decode cX4_add 20 = .ok (.iconst 0, 1) := by decide +kernel
theorem dX4_add_21 : decode cX4_add 21 = .ok (.putfield 65, 3) := by decide +kernel
theorem dX4_add_24 : decode cX4_add 24 = .ok (.aload_n 0, 1) := by decide +kernel
theorem dX4_add_25 : decode cX4_add 25 = .ok (.getfield 65, 3) := by decide +kernel
theorem dX4_add_28 : decode cX4_add 28 = .ok (.ifCond .ne 51, 3) := by decide +kernel
theorem dX4_add_31 : decode cX4_add 31 = .ok (.aload_n 0, 1) := by decide +kernel
theorem dX4_add_32 : decode cX4_add 32 = .ok (.iload_n 3, 1) := by decide +kernel
theorem dX4_add_33 : decode cX4_add 33 = .ok (.invokestatic 76, 3) := by decide +kernel
theorem dX4_add_36 : decode cX4_add 36 = .ok (.ifCond .eq 12, 3) := by decide +kernel
theorem dX4_add_39 : decode cX4_add 39 = .ok (.aload_n 0, 1) := by decide +kernel
theorem dX4_add_40 : decode cX4_add 40 = .ok (.iload_n 1, 1) := by decide +kernel
theorem dX4_add_41 : decode cX4_add 41 = .ok (.iload_n 2, 1) := by decide +kernel
theorem dX4_add_42 : decode cX4_add 42 = .ok (.invokevirtual 82, 3) := by decide +kernel
theorem dX4_add_45 : decode cX4_add 45 = .ok (.ifCond .eq 7, 3) := by decide +kernel
theorem dX4_add_48 : decode cX4_add 48 = .ok (.iconst 2, 1) := by decide +kernel
theorem dX4_add_49 : decode cX4_add 49 = .ok (.goto 27, 3) := by decide +kernel
theorem dX4_add_52 : decode cX4_add 52 = .ok (.aload_n 0, 1) := by decide +kernel
theorem dX4_add_53 : decode cX4_add 53 = .ok (.getfield 20, 3) := by decide +kernel
theorem dX4_add_56 : decode cX4_add 56 = .ok (.iload_n 1, 1) := by decide +kernel
theorem dX4_add_57 : decode cX4_add 57 = .ok (.iaload, 1) := by decide +kernel
theorem dX4_add_58 : decode cX4_add 58 = .ok (.ifCond .ge 13, 3) := by decide +kernel
theorem dX4_add_61 : decode cX4_add 61 = .ok (.aload_n 0, 1) := by decide +kernel
theorem dX4_add_62 : decode cX4_add 62 = .ok (.getfield 16, 3) := by decide +kernel
theorem dX4_add_65 : decode cX4_add 65 = .ok (.iload_n 1, 1) := by decide +kernel
theorem dX4_add_66 : decode cX4_add 66 = .ok (.iaload, 1) := by decide +kernel
theorem dX4_add_67 : decode cX4_add 67 = .ok (.iconst 4, 1) := by decide +kernel
theorem dX4_add_68 : decode cX4_add 68 = .ok (.if_icmp .ne 7, 3) := by decide +kernel
theorem dX4_add_71 : decode cX4_add 71 = .ok (.iconst 3, 1) := by decide +kernel
theorem dX4_add_72 : decode cX4_add 72 = .ok (.goto 4, 3) := by decide +kernel
theorem dX4_add_75 : decode cX4_add 75 = .ok (.iconst 0, 1) := by decide +kernel
theorem dX4_add_76 : decode cX4_add 76 = .ok (.putfield 65, 3) := by decide +kernel
theorem dX4_add_79 : decode cX4_add 79 = .ok (.aload_n 0, 1) := by decide +kernel
theorem dX4_add_80 : decode cX4_add 80 = .ok (.getfield 65, 3) := by decide +kernel
theorem dX4_add_83 : decode cX4_add 83 = .ok (.ifCond .le 5, 3) := by decide +kernel
theorem dX4_add_86 : decode cX4_add 86 = .ok (.iconst 0, 1) := by decide +kernel
theorem dX4_add_87 : decode cX4_add 87 = .ok (.ireturn, 1) := by decide +kernel
theorem dX4_add_88 : decode cX4_add 88 = .ok (.aload_n 0, 1) := by decide +kernel
theorem dX4_add_89 : decode cX4_add 89 = .ok (.getfield 23, 3) := by decide +kernel
theorem dX4_add_92 : decode cX4_add 92 = .ok (.iconst 4, 1) := by decide +kernel
theorem dX4_add_93 : decode cX4_add 93 = .ok (.iload_n 1, 1) := by decide +kernel
theorem dX4_add_94 : decode cX4_add 94 = .ok (.imul, 1) := by decide +kernel
theorem dX4_add_95 : decode cX4_add 95 = .ok (.aload_n 0, 1) := by decide +kernel
theorem dX4_add_96 : decode cX4_add 96 = .ok (.getfield 16, 3) := by decide +kernel
theorem dX4_add_99 : decode cX4_add 99 = .ok (.iload_n 1, 1) := by decide +kernel
theorem dX4_add_100 : decode cX4_add 100 = .ok (.iaload, 1) := by decide +kernel
theorem dX4_add_101 : decode cX4_add 101 = .ok (.iadd, 1) := by decide +kernel
theorem dX4_add_102 : decode cX4_add 102 = .ok (.iload_n 2, 1) := by decide +kernel
theorem dX4_add_103 : decode cX4_add 103 = .ok (.iastore, 1) := by decide +kernel
theorem dX4_add_104 : decode cX4_add 104 = .ok (.aload_n 0, 1) := by decide +kernel
theorem dX4_add_105 : decode cX4_add 105 = .ok (.getfield 26, 3) := by decide +kernel
theorem dX4_add_108 : decode cX4_add 108 = .ok (.iconst 4, 1) := by decide +kernel
theorem dX4_add_109 : decode cX4_add 109 = .ok (.iload_n 1, 1) := by decide +kernel
theorem dX4_add_110 : decode cX4_add 110 = .ok (.imul, 1) := by decide +kernel
theorem dX4_add_111 : decode cX4_add 111 = .ok (.aload_n 0, 1) := by decide +kernel
theorem dX4_add_112 : decode cX4_add 112 = .ok (.getfield 16, 3) := by decide +kernel
theorem dX4_add_115 : decode cX4_add 115 = .ok (.iload_n 1, 1) := by decide +kernel
theorem dX4_add_116 : decode cX4_add 116 = .ok (.iaload, 1) := by decide +kernel
theorem dX4_add_117 : decode cX4_add 117 = .ok (.iadd, 1) := by decide +kernel
theorem dX4_add_118 : decode cX4_add 118 = .ok (.iload_n 3, 1) := by decide +kernel
theorem dX4_add_119 : decode cX4_add 119 = .ok (.iastore, 1) := by decide +kernel
theorem dX4_add_120 : decode cX4_add 120 = .ok (.aload_n 0, 1) := by decide +kernel
theorem dX4_add_121 : decode cX4_add 121 = .ok (.getfield 16, 3) := by decide +kernel
theorem dX4_add_124 : decode cX4_add 124 = .ok (.iload_n 1, 1) := by decide +kernel
theorem dX4_add_125 : decode cX4_add 125 = .ok (.dup2, 1) := by decide +kernel
theorem dX4_add_126 : decode cX4_add 126 = .ok (.iaload, 1) := by decide +kernel
theorem dX4_add_127 : decode cX4_add 127 = .ok (.iconst 1, 1) := by decide +kernel
theorem dX4_add_128 : decode cX4_add 128 = .ok (.iadd, 1) := by decide +kernel
theorem dX4_add_129 : decode cX4_add 129 = .ok (.iastore, 1) := by decide +kernel
theorem dX4_add_130 : decode cX4_add 130 = .ok (.aload_n 0, 1) := by decide +kernel
theorem dX4_add_131 : decode cX4_add 131 = .ok (.getfield 16, 3) := by decide +kernel
theorem dX4_add_134 : decode cX4_add 134 = .ok (.iload_n 1, 1) := by decide +kernel
theorem dX4_add_135 : decode cX4_add 135 = .ok (.iaload, 1) := by decide +kernel
theorem dX4_add_136 : decode cX4_add 136 = .ok (.ireturn, 1) := by decide +kernel
theorem dX4_allShares_0 : decode cX4_allShares 0 = .ok (.iconst 0, 1) := by decide +kernel
theorem dX4_allShares_1 : decode cX4_allShares 1 = .ok (.istore_n 2, 1) := by decide +kernel
theorem dX4_allShares_2 : decode cX4_allShares 2 = .ok (.iconst 0, 1) := by decide +kernel
theorem dX4_allShares_3 : decode cX4_allShares 3 = .ok (.istore_n 3, 1) := by decide +kernel
theorem dX4_allShares_4 : decode cX4_allShares 4 = .ok (.iload_n 3, 1) := by decide +kernel
theorem dX4_allShares_5 : decode cX4_allShares 5 = .ok (.aload_n 0, 1) := by decide +kernel
theorem dX4_allShares_6 : decode cX4_allShares 6 = .ok (.getfield 16, 3) := by decide +kernel
theorem dX4_allShares_9 : decode cX4_allShares 9 = .ok (.iload_n 1, 1) := by decide +kernel
theorem dX4_allShares_10 : decode cX4_allShares 10 = .ok (.iaload, 1) := by decide +kernel
theorem dX4_allShares_11 : decode cX4_allShares 11 = .ok (.if_icmp .ge 22, 3) := by decide +kernel
theorem dX4_allShares_14 : decode cX4_allShares 14 = .ok (.iload_n 2, 1) := by decide +kernel
theorem dX4_allShares_15 : decode cX4_allShares 15 = .ok (.aload_n 0, 1) := by decide +kernel
theorem dX4_allShares_16 : decode cX4_allShares 16 = .ok (.getfield 26, 3) := by decide +kernel
theorem dX4_allShares_19 : decode cX4_allShares 19 = .ok (.iconst 4, 1) := by decide +kernel
theorem dX4_allShares_20 : decode cX4_allShares 20 = .ok (.iload_n 1, 1) := by decide +kernel
theorem dX4_allShares_21 : decode cX4_allShares 21 = .ok (.imul, 1) := by decide +kernel
theorem dX4_allShares_22 : decode cX4_allShares 22 = .ok (.iload_n 3, 1) := by decide +kernel
theorem dX4_allShares_23 : decode cX4_allShares 23 = .ok (.iadd, 1) := by decide +kernel
theorem dX4_allShares_24 : decode cX4_allShares 24 = .ok (.iaload, 1) := by decide +kernel
theorem dX4_allShares_25 : decode cX4_allShares 25 = .ok (.iadd, 1) := by decide +kernel
theorem dX4_allShares_26 : decode cX4_allShares 26 = .ok (.istore_n 2, 1) := by decide +kernel
theorem dX4_allShares_27 : decode cX4_allShares 27 = .ok (.iinc 3 1, 3) := by decide +kernel
theorem dX4_allShares_30 : decode cX4_allShares 30 = .ok (.goto (-26), 3) := by decide +kernel
theorem dX4_allShares_33 : decode cX4_allShares 33 = .ok (.iload_n 2, 1) := by decide +kernel
theorem dX4_allShares_34 : decode cX4_allShares 34 = .ok (.ireturn, 1) := by decide +kernel
theorem dX4_certify_0 : decode cX4_certify 0 = .ok (.aload_n 0, 1) := by decide +kernel
theorem dX4_certify_1 : decode cX4_certify 1 = .ok (.iload_n 1, 1) := by decide +kernel
theorem dX4_certify_2 : decode cX4_certify 2 = .ok (.invokestatic 72, 3) := by decide +kernel
theorem dX4_certify_5 : decode cX4_certify 5 = .ok (.ifCond .eq 11, 3) := by decide +kernel
theorem dX4_certify_8 : decode cX4_certify 8 = .ok (.aload_n 0, 1) := by decide +kernel
theorem dX4_certify_9 : decode cX4_certify 9 = .ok (.iload_n 2, 1) := by decide +kernel
theorem dX4_certify_10 : decode cX4_certify 10 = .ok (.invokevirtual 79, 3) := by decide +kernel
theorem dX4_certify_13 : decode cX4_certify 13 = .ok (.ifCond .ne 7, 3) := by decide +kernel
theorem dX4_certify_16 : decode cX4_certify 16 = .ok (.iconst 1, 1) := by decide +kernel
theorem dX4_certify_17 : decode cX4_certify 17 = .ok (.goto 15, 3) := by decide +kernel
theorem dX4_certify_20 : decode cX4_certify 20 = .ok (.iload_n 1, 1) := by decide +kernel
theorem dX4_certify_21 : decode cX4_certify 21 = .ok (.invokestatic 86, 3) := by decide +kernel
theorem dX4_certify_24 : decode cX4_certify 24 = .ok (.ifCond .ne 7, 3) := by decide +kernel
theorem dX4_certify_27 : decode cX4_certify 27 = .ok (.iconst 2, 1) := by decide +kernel
theorem dX4_certify_28 : decode cX4_certify 28 = .ok (.goto 4, 3) := by decide +kernel
theorem dX4_certify_31 : decode cX4_certify 31 = .ok (.iconst 0, 1) := by decide +kernel
theorem dX4_certify_32 : decode cX4_certify 32 = .ok (.putfield 65, 3) := by decide +kernel
theorem dX4_certify_35 : decode cX4_certify 35 = .ok (.aload_n 0, 1) := by decide +kernel
theorem dX4_certify_36 : decode cX4_certify 36 = .ok (.getfield 65, 3) := by decide +kernel
theorem dX4_certify_39 : decode cX4_certify 39 = .ok (.ifCond .ne 39, 3) := by decide +kernel
theorem dX4_certify_42 : decode cX4_certify 42 = .ok (.aload_n 0, 1) := by decide +kernel
theorem dX4_certify_43 : decode cX4_certify 43 = .ok (.aload_n 0, 1) := by decide +kernel
theorem dX4_certify_44 : decode cX4_certify 44 = .ok (.getfield 20, 3) := by decide +kernel
theorem dX4_certify_47 : decode cX4_certify 47 = .ok (.iload_n 2, 1) := by decide +kernel
theorem dX4_certify_48 : decode cX4_certify 48 = .ok (.iaload, 1) := by decide +kernel
theorem dX4_certify_49 : decode cX4_certify 49 = .ok (.ifCond .ge 21, 3) := by decide +kernel
theorem dX4_certify_52 : decode cX4_certify 52 = .ok (.aload_n 0, 1) := by decide +kernel
theorem dX4_certify_53 : decode cX4_certify 53 = .ok (.getfield 16, 3) := by decide +kernel
theorem dX4_certify_56 : decode cX4_certify 56 = .ok (.iload_n 2, 1) := by decide +kernel
theorem dX4_certify_57 : decode cX4_certify 57 = .ok (.iaload, 1) := by decide +kernel
theorem dX4_certify_58 : decode cX4_certify 58 = .ok (.iconst 1, 1) := by decide +kernel
theorem dX4_certify_59 : decode cX4_certify 59 = .ok (.if_icmp .eq 11, 3) := by decide +kernel
theorem dX4_certify_62 : decode cX4_certify 62 = .ok (.aload_n 0, 1) := by decide +kernel
theorem dX4_certify_63 : decode cX4_certify 63 = .ok (.iload_n 2, 1) := by decide +kernel
theorem dX4_certify_64 : decode cX4_certify 64 = .ok (.invokevirtual 89, 3) := by decide +kernel
theorem dX4_certify_67 : decode cX4_certify 67 = .ok (.ifCond .eq 7, 3) := by decide +kernel
theorem dX4_certify_70 : decode cX4_certify 70 = .ok (.iconst 3, 1) := by decide +kernel
theorem dX4_certify_71 : decode cX4_certify 71 = .ok (.goto 4, 3) := by decide +kernel
theorem dX4_certify_74 : decode cX4_certify 74 = .ok (.iconst 0, 1) := by decide +kernel
theorem dX4_certify_75 : decode cX4_certify 75 = .ok (.putfield 65, 3) := by decide +kernel
theorem dX4_certify_78 : decode cX4_certify 78 = .ok (.aload_n 0, 1) := by decide +kernel
theorem dX4_certify_79 : decode cX4_certify 79 = .ok (.getfield 65, 3) := by decide +kernel
theorem dX4_certify_82 : decode cX4_certify 82 = .ok (.ifCond .ne 10, 3) := by decide +kernel
theorem dX4_certify_85 : decode cX4_certify 85 = .ok (.aload_n 0, 1) := by decide +kernel
theorem dX4_certify_86 : decode cX4_certify 86 = .ok (.getfield 20, 3) := by decide +kernel
theorem dX4_certify_89 : decode cX4_certify 89 = .ok (.iload_n 2, 1) := by decide +kernel
theorem dX4_certify_90 : decode cX4_certify 90 = .ok (.iload_n 1, 1) := by decide +kernel
theorem dX4_certify_91 : decode cX4_certify 91 = .ok (.iastore, 1) := by decide +kernel
theorem dX4_certify_92 : decode cX4_certify 92 = .ok (.return_, 1) := by decide +kernel
theorem dX4_grant_0 : decode cX4_grant 0 = .ok (.aload_n 0, 1) := by decide +kernel
theorem dX4_grant_1 : decode cX4_grant 1 = .ok (.iload_n 1, 1) := by decide +kernel
theorem dX4_grant_2 : decode cX4_grant 2 = .ok (.invokestatic 72, 3) := by decide +kernel
theorem dX4_grant_5 : decode cX4_grant 5 = .ok (.ifCond .eq 18, 3) := by decide +kernel
theorem dX4_grant_8 : decode cX4_grant 8 = .ok (.iload_n 2, 1) := by decide +kernel
theorem dX4_grant_9 : decode cX4_grant 9 = .ok (.invokestatic 72, 3) := by decide +kernel
theorem dX4_grant_12 : decode cX4_grant 12 = .ok (.ifCond .eq 11, 3) := by decide +kernel
theorem dX4_grant_15 : decode cX4_grant 15 = .ok (.aload_n 0, 1) := by decide +kernel
theorem dX4_grant_16 : decode cX4_grant 16 = .ok (.iload_n 3, 1) := by decide +kernel
theorem dX4_grant_17 : decode cX4_grant 17 = .ok (.invokevirtual 79, 3) := by decide +kernel
theorem dX4_grant_20 : decode cX4_grant 20 = .ok (.ifCond .ne 7, 3) := by decide +kernel
theorem dX4_grant_23 : decode cX4_grant 23 = .ok (.iconst 1, 1) := by decide +kernel
theorem dX4_grant_24 : decode cX4_grant 24 = .ok (.goto 20, 3) := by decide +kernel
theorem dX4_grant_27 : decode cX4_grant 27 = .ok (.iload_n 1, 1) := by decide +kernel
theorem dX4_grant_28 : decode cX4_grant 28 = .ok (.invokestatic 86, 3) := by decide +kernel
theorem dX4_grant_31 : decode cX4_grant 31 = .ok (.ifCond .eq 8, 3) := by decide +kernel
theorem dX4_grant_34 : decode cX4_grant 34 = .ok (.iload_n 1, 1) := by decide +kernel
theorem dX4_grant_35 : decode cX4_grant 35 = .ok (.iload_n 2, 1) := by decide +kernel
theorem dX4_grant_36 : decode cX4_grant 36 = .ok (.if_icmp .ne 7, 3) := by decide +kernel
theorem dX4_grant_39 : decode cX4_grant 39 = .ok (.iconst 2, 1) := by decide +kernel
theorem dX4_grant_40 : decode cX4_grant 40 = .ok (.goto 4, 3) := by decide +kernel
theorem dX4_grant_43 : decode cX4_grant 43 = .ok (.iconst 0, 1) := by decide +kernel
theorem dX4_grant_44 : decode cX4_grant 44 = .ok (.putfield 65, 3) := by decide +kernel
theorem dX4_grant_47 : decode cX4_grant 47 = .ok (.aload_n 0, 1) := by decide +kernel
theorem dX4_grant_48 : decode cX4_grant 48 = .ok (.getfield 65, 3) := by decide +kernel
theorem dX4_grant_51 : decode cX4_grant 51 = .ok (.ifCond .le 5, 3) := by decide +kernel
theorem dX4_grant_54 : decode cX4_grant 54 = .ok (.iconst 0, 1) := by decide +kernel
theorem dX4_grant_55 : decode cX4_grant 55 = .ok (.ireturn, 1) := by decide +kernel
theorem dX4_grant_56 : decode cX4_grant 56 = .ok (.aload_n 0, 1) := by decide +kernel
theorem dX4_grant_57 : decode cX4_grant 57 = .ok (.getfield 29, 3) := by decide +kernel
theorem dX4_grant_60 : decode cX4_grant 60 = .ok (.bipush 8, 2) := by decide +kernel
theorem dX4_grant_62 : decode cX4_grant 62 = .ok (.iload_n 3, 1) := by decide +kernel
theorem dX4_grant_63 : decode cX4_grant 63 = .ok (.imul, 1) := by decide +kernel
theorem dX4_grant_64 : decode cX4_grant 64 = .ok (.iload_n 2, 1) := by decide +kernel
theorem dX4_grant_65 : decode cX4_grant 65 = .ok (.iadd, 1) := by decide +kernel
theorem dX4_grant_66 : decode cX4_grant 66 = .ok (.baload, 1) := by decide +kernel
theorem dX4_grant_67 : decode cX4_grant 67 = .ok (.istore 5, 2) := by decide +kernel
theorem dX4_grant_69 : decode cX4_grant 69 = .ok (.aload_n 0, 1) := by decide +kernel
theorem dX4_grant_70 : decode cX4_grant 70 = .ok (.getfield 29, 3) := by decide +kernel
theorem dX4_grant_73 : decode cX4_grant 73 = .ok (.bipush 8, 2) := by decide +kernel
theorem dX4_grant_75 : decode cX4_grant 75 = .ok (.iload_n 3, 1) := by decide +kernel
theorem dX4_grant_76 : decode cX4_grant 76 = .ok (.imul, 1) := by decide +kernel
theorem dX4_grant_77 : decode cX4_grant 77 = .ok (.iload_n 2, 1) := by decide +kernel
theorem dX4_grant_78 : decode cX4_grant 78 = .ok (.iadd, 1) := by decide +kernel
theorem dX4_grant_79 : decode cX4_grant 79 = .ok (.iload 4, 2) := by decide +kernel
theorem dX4_grant_81 : decode cX4_grant 81 = .ok (.bastore, 1) := by decide +kernel
theorem dX4_grant_82 : decode cX4_grant 82 = .ok (.iload 5, 2) := by decide +kernel
theorem dX4_grant_84 : decode cX4_grant 84 = .ok (.iload 4, 2) := by decide +kernel
theorem dX4_grant_86 : decode cX4_grant 86 = .ok (.if_icmp .eq 7, 3) := by decide +kernel
theorem dX4_grant_89 : decode cX4_grant 89 = .ok (.iconst 1, 1) := by decide +kernel
theorem dX4_grant_90 : decode cX4_grant 90 = .ok (.goto 4, 3) := by decide +kernel
theorem dX4_grant_93 : decode cX4_grant 93 = .ok (.iconst 0, 1) := by decide +kernel
theorem dX4_grant_94 : decode cX4_grant 94 = .ok (.ireturn, 1) := by decide +kernel
theorem dX4_may_0 : decode cX4_may 0 = .ok (.aload_n 0, 1) := by decide +kernel
theorem dX4_may_1 : decode cX4_may 1 = .ok (.getfield 20, 3) := by decide +kernel
theorem dX4_may_4 : decode cX4_may 4 = .ok (.iload_n 2, 1) := by decide +kernel
theorem dX4_may_5 : decode cX4_may 5 = .ok (.iaload, 1) := by decide +kernel
theorem dX4_may_6 : decode cX4_may 6 = .ok (.ifCond .lt 31, 3) := by decide +kernel
theorem dX4_may_9 : decode cX4_may 9 = .ok (.aload_n 0, 1) := by decide +kernel
theorem dX4_may_10 : decode cX4_may 10 = .ok (.getfield 20, 3) := by decide +kernel
theorem dX4_may_13 : decode cX4_may 13 = .ok (.iload_n 2, 1) := by decide +kernel
theorem dX4_may_14 : decode cX4_may 14 = .ok (.iaload, 1) := by decide +kernel
theorem dX4_may_15 : decode cX4_may 15 = .ok (.iload_n 1, 1) := by decide +kernel
theorem dX4_may_16 : decode cX4_may 16 = .ok (.if_icmp .eq 21, 3) := by decide +kernel
theorem dX4_may_19 : decode cX4_may 19 = .ok (.aload_n 0, 1) := by decide +kernel
theorem dX4_may_20 : decode cX4_may 20 = .ok (.getfield 29, 3) := by decide +kernel
theorem dX4_may_23 : decode cX4_may 23 = .ok (.bipush 8, 2) := by decide +kernel
theorem dX4_may_25 : decode cX4_may 25 = .ok (.iload_n 2, 1) := by decide +kernel
theorem dX4_may_26 : decode cX4_may 26 = .ok (.imul, 1) := by decide +kernel
theorem dX4_may_27 : decode cX4_may 27 = .ok (.iload_n 1, 1) := by decide +kernel
theorem dX4_may_28 : decode cX4_may 28 = .ok (.iadd, 1) := by decide +kernel
theorem dX4_may_29 : decode cX4_may 29 = .ok (.baload, 1) := by decide +kernel
theorem dX4_may_30 : decode cX4_may 30 = .ok (.ifCond .eq 7, 3) := by decide +kernel
theorem dX4_may_33 : decode cX4_may 33 = .ok (.iconst 1, 1) := by decide +kernel
theorem dX4_may_34 : decode cX4_may 34 = .ok (.goto 4, 3) := by decide +kernel
theorem dX4_may_37 : decode cX4_may 37 = .ok (.iconst 0, 1) := by decide +kernel
theorem dX4_may_38 : decode cX4_may 38 = .ok (.ireturn, 1) := by decide +kernel
theorem dX4_mayRun_0 : decode cX4_mayRun 0 = .ok (.aload_n 0, 1) := by decide +kernel
theorem dX4_mayRun_1 : decode cX4_mayRun 1 = .ok (.iconst 0, 1) := by decide +kernel
theorem dX4_mayRun_2 : decode cX4_mayRun 2 = .ok (.putfield 65, 3) := by decide +kernel
theorem dX4_mayRun_5 : decode cX4_mayRun 5 = .ok (.iload_n 1, 1) := by decide +kernel
theorem dX4_mayRun_6 : decode cX4_mayRun 6 = .ok (.invokestatic 72, 3) := by decide +kernel
theorem dX4_mayRun_9 : decode cX4_mayRun 9 = .ok (.ifCond .eq 24, 3) := by decide +kernel
theorem dX4_mayRun_12 : decode cX4_mayRun 12 = .ok (.aload_n 0, 1) := by decide +kernel
theorem dX4_mayRun_13 : decode cX4_mayRun 13 = .ok (.iload_n 2, 1) := by decide +kernel
theorem dX4_mayRun_14 : decode cX4_mayRun 14 = .ok (.invokevirtual 79, 3) := by decide +kernel
theorem dX4_mayRun_17 : decode cX4_mayRun 17 = .ok (.ifCond .eq 16, 3) := by decide +kernel
theorem dX4_mayRun_20 : decode cX4_mayRun 20 = .ok (.aload_n 0, 1) := by decide +kernel
theorem dX4_mayRun_21 : decode cX4_mayRun 21 = .ok (.iload_n 1, 1) := by decide +kernel
theorem dX4_mayRun_22 : decode cX4_mayRun 22 = .ok (.iload_n 2, 1) := by decide +kernel
theorem dX4_mayRun_23 : decode cX4_mayRun 23 = .ok (.invokevirtual 93, 3) := by decide +kernel
theorem dX4_mayRun_26 : decode cX4_mayRun 26 = .ok (.ifCond .eq 7, 3) := by decide +kernel
theorem dX4_mayRun_29 : decode cX4_mayRun 29 = .ok (.iconst 1, 1) := by decide +kernel
theorem dX4_mayRun_30 : decode cX4_mayRun 30 = .ok (.goto 4, 3) := by decide +kernel
theorem dX4_mayRun_33 : decode cX4_mayRun 33 = .ok (.iconst 0, 1) := by decide +kernel
theorem dX4_mayRun_34 : decode cX4_mayRun 34 = .ok (.ireturn, 1) := by decide +kernel
theorem dX4_floor_0 : decode cX4_floor 0 = .ok (.aload_n 0, 1) := by decide +kernel
theorem dX4_floor_1 : decode cX4_floor 1 = .ok (.iload_n 1, 1) := by decide +kernel
theorem dX4_floor_2 : decode cX4_floor 2 = .ok (.invokestatic 72, 3) := by decide +kernel
theorem dX4_floor_5 : decode cX4_floor 5 = .ok (.ifCond .eq 10, 3) := by decide +kernel
theorem dX4_floor_8 : decode cX4_floor 8 = .ok (.iload_n 2, 1) := by decide +kernel
theorem dX4_floor_9 : decode cX4_floor 9 = .ok (.invokestatic 72, 3) := by decide +kernel
theorem dX4_floor_12 : decode cX4_floor 12 = .ok (.ifCond .ne 7, 3) := by decide +kernel
theorem dX4_floor_15 : decode cX4_floor 15 = .ok (.iconst 1, 1) := by decide +kernel
theorem dX4_floor_16 : decode cX4_floor 16 = .ok (.goto 35, 3) := by decide +kernel
theorem dX4_floor_19 : decode cX4_floor 19 = .ok (.iload_n 1, 1) := by decide +kernel
theorem dX4_floor_20 : decode cX4_floor 20 = .ok (.invokestatic 86, 3) := by decide +kernel
theorem dX4_floor_23 : decode cX4_floor 23 = .ok (.ifCond .ne 7, 3) := by decide +kernel
theorem dX4_floor_26 : decode cX4_floor 26 = .ok (.iconst 2, 1) := by decide +kernel
theorem dX4_floor_27 : decode cX4_floor 27 = .ok (.goto 24, 3) := by decide +kernel
theorem dX4_floor_30 : decode cX4_floor 30 = .ok (.lload_n 3, 1) := by decide +kernel
theorem dX4_floor_31 : decode cX4_floor 31 = .ok (.ldc2_w 63, 3) := by decide +kernel
theorem dX4_floor_34 : decode cX4_floor 34 = .ok (.lcmp, 1) := by decide +kernel
theorem dX4_floor_35 : decode cX4_floor 35 = .ok (.ifCond .lt 11, 3) := by decide +kernel
theorem dX4_floor_38 : decode cX4_floor 38 = .ok (.lload_n 3, 1) := by decide +kernel
theorem dX4_floor_39 : decode cX4_floor 39 = .ok (.ldc2_w 96, 3) := by decide +kernel
theorem dX4_floor_42 : decode cX4_floor 42 = .ok (.lcmp, 1) := by decide +kernel
theorem dX4_floor_43 : decode cX4_floor 43 = .ok (.ifCond .le 7, 3) := by decide +kernel
theorem dX4_floor_46 : decode cX4_floor 46 = .ok (.iconst 3, 1) := by decide +kernel
theorem dX4_floor_47 : decode cX4_floor 47 = .ok (.goto 4, 3) := by decide +kernel
theorem dX4_floor_50 : decode cX4_floor 50 = .ok (.iconst 0, 1) := by decide +kernel
theorem dX4_floor_51 : decode cX4_floor 51 = .ok (.putfield 65, 3) := by decide +kernel
theorem dX4_floor_54 : decode cX4_floor 54 = .ok (.aload_n 0, 1) := by decide +kernel
theorem dX4_floor_55 : decode cX4_floor 55 = .ok (.getfield 65, 3) := by decide +kernel
theorem dX4_floor_58 : decode cX4_floor 58 = .ok (.ifCond .le 5, 3) := by decide +kernel
theorem dX4_floor_61 : decode cX4_floor 61 = .ok (.lconst 0, 1) := by decide +kernel
theorem dX4_floor_62 : decode cX4_floor 62 = .ok (.lreturn, 1) := by decide +kernel
theorem dX4_floor_63 : decode cX4_floor 63 = .ok (.aload_n 0, 1) := by decide +kernel
theorem dX4_floor_64 : decode cX4_floor 64 = .ok (.getfield 13, 3) := by decide +kernel
theorem dX4_floor_67 : decode cX4_floor 67 = .ok (.iload_n 2, 1) := by decide +kernel
theorem dX4_floor_68 : decode cX4_floor 68 = .ok (.laload, 1) := by decide +kernel
theorem dX4_floor_69 : decode cX4_floor 69 = .ok (.lstore 5, 2) := by decide +kernel
theorem dX4_floor_71 : decode cX4_floor 71 = .ok (.aload_n 0, 1) := by decide +kernel
theorem dX4_floor_72 : decode cX4_floor 72 = .ok (.getfield 13, 3) := by decide +kernel
theorem dX4_floor_75 : decode cX4_floor 75 = .ok (.iload_n 2, 1) := by decide +kernel
theorem dX4_floor_76 : decode cX4_floor 76 = .ok (.lload_n 3, 1) := by decide +kernel
theorem dX4_floor_77 : decode cX4_floor 77 = .ok (.lastore, 1) := by decide +kernel
theorem dX4_floor_78 : decode cX4_floor 78 = .ok (.lload 5, 2) := by decide +kernel
theorem dX4_floor_80 : decode cX4_floor 80 = .ok (.lreturn, 1) := by decide +kernel
theorem dX4_findPosts_0 : decode cX4_findPosts 0 = .ok (.lconst 0, 1) := by decide +kernel
theorem dX4_findPosts_1 : decode cX4_findPosts 1 = .ok (.lstore 4, 2) := by decide +kernel
theorem dX4_findPosts_3 : decode cX4_findPosts 3 = .ok (.iconst 0, 1) := by decide +kernel
theorem dX4_findPosts_4 : decode cX4_findPosts 4 = .ok (.istore 6, 2) := by decide +kernel
theorem dX4_findPosts_6 : decode cX4_findPosts 6 = .ok (.iload 6, 2) := by decide +kernel
theorem dX4_findPosts_8 : decode cX4_findPosts 8 = .ok (.aload_n 0, 1) := by decide +kernel
theorem dX4_findPosts_9 : decode cX4_findPosts 9 = .ok (.getfield 16, 3) := by decide +kernel
theorem dX4_findPosts_12 : decode cX4_findPosts 12 = .ok (.iload_n 1, 1) := by decide +kernel
theorem dX4_findPosts_13 : decode cX4_findPosts 13 = .ok (.iaload, 1) := by decide +kernel
theorem dX4_findPosts_14 : decode cX4_findPosts 14 = .ok (.if_icmp .ge 65, 3) := by decide +kernel
theorem dX4_findPosts_17 : decode cX4_findPosts 17 = .ok (.aload_n 0, 1) := by decide +kernel
theorem dX4_findPosts_18 : decode cX4_findPosts 18 = .ok (.getfield 60, 3) := by decide +kernel
theorem dX4_findPosts_21 : decode cX4_findPosts 21 = .ok (.iload 6, 2) := by decide +kernel
theorem dX4_findPosts_23 : decode cX4_findPosts 23 = .ok (.iload 6, 2) := by decide +kernel
theorem dX4_findPosts_25 : decode cX4_findPosts 25 = .ok (.aload_n 0, 1) := by decide +kernel
theorem dX4_findPosts_26 : decode cX4_findPosts 26 = .ok (.getfield 16, 3) := by decide +kernel
theorem dX4_findPosts_29 : decode cX4_findPosts 29 = .ok (.iload_n 1, 1) := by decide +kernel
theorem dX4_findPosts_30 : decode cX4_findPosts 30 = .ok (.iaload, 1) := by decide +kernel
theorem dX4_findPosts_31 : decode cX4_findPosts 31 = .ok (.iconst 1, 1) := by decide +kernel
theorem dX4_findPosts_32 : decode cX4_findPosts 32 = .ok (.isub, 1) := by decide +kernel
theorem dX4_findPosts_33 : decode cX4_findPosts 33 = .ok (.if_icmp .ne 9, 3) := by decide +kernel
theorem dX4_findPosts_36 : decode cX4_findPosts 36 = .ok (.lload 4, 2) := by decide +kernel
theorem dX4_findPosts_38 : decode cX4_findPosts 38 = .ok (.lneg, 1) := by decide +kernel
theorem dX4_findPosts_39 : decode cX4_findPosts 39 = .ok (.goto 21, 3) := by decide +kernel
theorem dX4_findPosts_42 : decode cX4_findPosts 42 = .ok (.lload_n 2, 1) := by decide +kernel
theorem dX4_findPosts_43 : decode cX4_findPosts 43 = .ok (.aload_n 0, 1) := by decide +kernel
theorem dX4_findPosts_44 : decode cX4_findPosts 44 = .ok (.getfield 26, 3) := by decide +kernel
theorem dX4_findPosts_47 : decode cX4_findPosts 47 = .ok (.iconst 4, 1) := by decide +kernel
theorem dX4_findPosts_48 : decode cX4_findPosts 48 = .ok (.iload_n 1, 1) := by decide +kernel
theorem dX4_findPosts_49 : decode cX4_findPosts 49 = .ok (.imul, 1) := by decide +kernel
theorem dX4_findPosts_50 : decode cX4_findPosts 50 = .ok (.iload 6, 2) := by decide +kernel
theorem dX4_findPosts_52 : decode cX4_findPosts 52 = .ok (.iadd, 1) := by decide +kernel
theorem dX4_findPosts_53 : decode cX4_findPosts 53 = .ok (.iaload, 1) := by decide +kernel
theorem dX4_findPosts_54 : decode cX4_findPosts 54 = .ok (.i2l, 1) := by decide +kernel
theorem dX4_findPosts_55 : decode cX4_findPosts 55 = .ok (.lmul, 1) := by decide +kernel
theorem dX4_findPosts_56 : decode cX4_findPosts 56 = .ok (.ldc2_w 98, 3) := by decide +kernel
theorem dX4_findPosts_59 : decode cX4_findPosts 59 = .ok (.ldiv, 1) := by decide +kernel
theorem dX4_findPosts_60 : decode cX4_findPosts 60 = .ok (.lastore, 1) := by decide +kernel
theorem dX4_findPosts_61 : decode cX4_findPosts 61 = .ok (.lload 4, 2) := by decide +kernel
theorem dX4_findPosts_63 : decode cX4_findPosts 63 = .ok (.aload_n 0, 1) := by decide +kernel
theorem dX4_findPosts_64 : decode cX4_findPosts 64 = .ok (.getfield 60, 3) := by decide +kernel
theorem dX4_findPosts_67 : decode cX4_findPosts 67 = .ok (.iload 6, 2) := by decide +kernel
theorem dX4_findPosts_69 : decode cX4_findPosts 69 = .ok (.laload, 1) := by decide +kernel
theorem dX4_findPosts_70 : decode cX4_findPosts 70 = .ok (.ladd, 1) := by decide +kernel
theorem dX4_findPosts_71 : decode cX4_findPosts 71 = .ok (.lstore 4, 2) := by decide +kernel
theorem dX4_findPosts_73 : decode cX4_findPosts 73 = .ok (.iinc 6 1, 3) := by decide +kernel
theorem dX4_findPosts_76 : decode cX4_findPosts 76 = .ok (.goto (-70), 3) := by decide +kernel
theorem dX4_findPosts_79 : decode cX4_findPosts 79 = .ok (.return_, 1) := by decide +kernel
theorem dX4_run_0 : decode cX4_run 0 = .ok (.aload_n 0, 1) := by decide +kernel
theorem dX4_run_1 : decode cX4_run 1 = .ok (.iload_n 1, 1) := by decide +kernel
theorem dX4_run_2 : decode cX4_run 2 = .ok (.lload_n 2, 1) := by decide +kernel
theorem dX4_run_3 : decode cX4_run 3 = .ok (.invokevirtual 100, 3) := by decide +kernel
theorem dX4_run_6 : decode cX4_run 6 = .ok (.iconst 0, 1) := by decide +kernel
theorem dX4_run_7 : decode cX4_run 7 = .ok (.istore 6, 2) := by decide +kernel
theorem dX4_run_9 : decode cX4_run 9 = .ok (.iconst 1, 1) := by decide +kernel
theorem dX4_run_10 : decode cX4_run 10 = .ok (.istore 7, 2) := by decide +kernel
theorem dX4_run_12 : decode cX4_run 12 = .ok (.iload 6, 2) := by decide +kernel
theorem dX4_run_14 : decode cX4_run 14 = .ok (.aload_n 0, 1) := by decide +kernel
theorem dX4_run_15 : decode cX4_run 15 = .ok (.getfield 16, 3) := by decide +kernel
theorem dX4_run_18 : decode cX4_run 18 = .ok (.iload_n 1, 1) := by decide +kernel
theorem dX4_run_19 : decode cX4_run 19 = .ok (.iaload, 1) := by decide +kernel
theorem dX4_run_20 : decode cX4_run 20 = .ok (.if_icmp .ge 103, 3) := by decide +kernel
theorem dX4_run_23 : decode cX4_run 23 = .ok (.iload 7, 2) := by decide +kernel
theorem dX4_run_25 : decode cX4_run 25 = .ok (.ifCond .eq 98, 3) := by decide +kernel
theorem dX4_run_28 : decode cX4_run 28 = .ok (.aload_n 0, 1) := by decide +kernel
theorem dX4_run_29 : decode cX4_run 29 = .ok (.getfield 23, 3) := by decide +kernel
theorem dX4_run_32 : decode cX4_run 32 = .ok (.iconst 4, 1) := by decide +kernel
theorem dX4_run_33 : decode cX4_run 33 = .ok (.iload_n 1, 1) := by decide +kernel
theorem dX4_run_34 : decode cX4_run 34 = .ok (.imul, 1) := by decide +kernel
theorem dX4_run_35 : decode cX4_run 35 = .ok (.iload 6, 2) := by decide +kernel
theorem dX4_run_37 : decode cX4_run 37 = .ok (.iadd, 1) := by decide +kernel
theorem dX4_run_38 : decode cX4_run 38 = .ok (.iaload, 1) := by decide +kernel
theorem dX4_run_39 : decode cX4_run 39 = .ok (.istore 8, 2) := by decide +kernel
theorem dX4_run_41 : decode cX4_run 41 = .ok (.aload_n 0, 1) := by decide +kernel
theorem dX4_run_42 : decode cX4_run 42 = .ok (.getfield 7, 3) := by decide +kernel
theorem dX4_run_45 : decode cX4_run 45 = .ok (.iload 8, 2) := by decide +kernel
theorem dX4_run_47 : decode cX4_run 47 = .ok (.laload, 1) := by decide +kernel
theorem dX4_run_48 : decode cX4_run 48 = .ok (.lload 4, 2) := by decide +kernel
theorem dX4_run_50 : decode cX4_run 50 = .ok (.aload_n 0, 1) := by decide +kernel
theorem dX4_run_51 : decode cX4_run 51 = .ok (.getfield 60, 3) := by decide +kernel
theorem dX4_run_54 : decode cX4_run 54 = .ok (.iload 6, 2) := by decide +kernel
theorem dX4_run_56 : decode cX4_run 56 = .ok (.laload, 1) := by decide +kernel
theorem dX4_run_57 : decode cX4_run 57 = .ok (.lmul, 1) := by decide +kernel
theorem dX4_run_58 : decode cX4_run 58 = .ok (.ladd, 1) := by decide +kernel
theorem dX4_run_59 : decode cX4_run 59 = .ok (.lstore 9, 2) := by decide +kernel
theorem dX4_run_61 : decode cX4_run 61 = .ok (.lload 9, 2) := by decide +kernel
theorem dX4_run_63 : decode cX4_run 63 = .ok (.ldc2_w 96, 3) := by decide +kernel
theorem dX4_run_66 : decode cX4_run 66 = .ok (.lcmp, 1) := by decide +kernel
theorem dX4_run_67 : decode cX4_run 67 = .ok (.ifCond .gt 33, 3) := by decide +kernel
theorem dX4_run_70 : decode cX4_run 70 = .ok (.lload 9, 2) := by decide +kernel
theorem dX4_run_72 : decode cX4_run 72 = .ok (.aload_n 0, 1) := by decide +kernel
theorem dX4_run_73 : decode cX4_run 73 = .ok (.getfield 13, 3) := by decide +kernel
theorem dX4_run_76 : decode cX4_run 76 = .ok (.iload 8, 2) := by decide +kernel
theorem dX4_run_78 : decode cX4_run 78 = .ok (.laload, 1) := by decide +kernel
theorem dX4_run_79 : decode cX4_run 79 = .ok (.lcmp, 1) := by decide +kernel
theorem dX4_run_80 : decode cX4_run 80 = .ok (.ifCond .ge 16, 3) := by decide +kernel
theorem dX4_run_83 : decode cX4_run 83 = .ok (.lload 9, 2) := by decide +kernel
theorem dX4_run_85 : decode cX4_run 85 = .ok (.aload_n 0, 1) := by decide +kernel
theorem dX4_run_86 : decode cX4_run 86 = .ok (.getfield 7, 3) := by decide +kernel
theorem dX4_run_89 : decode cX4_run 89 = .ok (.iload 8, 2) := by decide +kernel
theorem dX4_run_91 : decode cX4_run 91 = .ok (.laload, 1) := by decide +kernel
theorem dX4_run_92 : decode cX4_run 92 = .ok (.lcmp, 1) := by decide +kernel
theorem dX4_run_93 : decode cX4_run 93 = .ok (.ifCond .lt 7, 3) := by decide +kernel
theorem dX4_run_96 : decode cX4_run 96 = .ok (.iconst 1, 1) := by decide +kernel
theorem dX4_run_97 : decode cX4_run 97 = .ok (.goto 4, 3) := by decide +kernel
theorem dX4_run_100 : decode cX4_run 100 = .ok (.iconst 0, 1) := by decide +kernel
theorem dX4_run_101 : decode cX4_run 101 = .ok (.istore 7, 2) := by decide +kernel
theorem dX4_run_103 : decode cX4_run 103 = .ok (.iload 7, 2) := by decide +kernel
theorem dX4_run_105 : decode cX4_run 105 = .ok (.ifCond .eq 15, 3) := by decide +kernel
theorem dX4_run_108 : decode cX4_run 108 = .ok (.aload_n 0, 1) := by decide +kernel
theorem dX4_run_109 : decode cX4_run 109 = .ok (.getfield 7, 3) := by decide +kernel
theorem dX4_run_112 : decode cX4_run 112 = .ok (.iload 8, 2) := by decide +kernel
theorem dX4_run_114 : decode cX4_run 114 = .ok (.lload 9, 2) := by decide +kernel
theorem dX4_run_116 : decode cX4_run 116 = .ok (.lastore, 1) := by decide +kernel
theorem dX4_run_117 : decode cX4_run 117 = .ok (.iinc 6 1, 3) := by decide +kernel
theorem dX4_run_120 : decode cX4_run 120 = .ok (.goto (-108), 3) := by decide +kernel
theorem dX4_run_123 : decode cX4_run 123 = .ok (.iconst 0, 1) := by decide +kernel
theorem dX4_run_124 : decode cX4_run 124 = .ok (.istore 8, 2) := by decide +kernel
theorem dX4_run_126 : decode cX4_run 126 = .ok (.iload 8, 2) := by decide +kernel
theorem dX4_run_128 : decode cX4_run 128 = .ok (.iload 6, 2) := by decide +kernel
theorem dX4_run_130 : decode cX4_run 130 = .ok (.if_icmp .ge 52, 3) := by decide +kernel
theorem dX4_run_133 : decode cX4_run 133 = .ok (.iload 7, 2) := by decide +kernel
theorem dX4_run_135 : decode cX4_run 135 = .ok (.ifCond .ne 47, 3) := by decide +kernel
theorem dX4_run_138 : decode cX4_run 138 = .ok (.aload_n 0, 1) := by decide +kernel
theorem dX4_run_139 : decode cX4_run 139 = .ok (.getfield 23, 3) := by decide +kernel
theorem dX4_run_142 : decode cX4_run 142 = .ok (.iconst 4, 1) := by decide +kernel
theorem dX4_run_143 : decode cX4_run 143 = .ok (.iload_n 1, 1) := by decide +kernel
theorem dX4_run_144 : decode cX4_run 144 = .ok (.imul, 1) := by decide +kernel
theorem dX4_run_145 : decode cX4_run 145 = .ok (.iload 8, 2) := by decide +kernel
theorem dX4_run_147 : decode cX4_run 147 = .ok (.iadd, 1) := by decide +kernel
theorem dX4_run_148 : decode cX4_run 148 = .ok (.iaload, 1) := by decide +kernel
theorem dX4_run_149 : decode cX4_run 149 = .ok (.istore 9, 2) := by decide +kernel
theorem dX4_run_151 : decode cX4_run 151 = .ok (.aload_n 0, 1) := by decide +kernel
theorem dX4_run_152 : decode cX4_run 152 = .ok (.getfield 7, 3) := by decide +kernel
theorem dX4_run_155 : decode cX4_run 155 = .ok (.iload 9, 2) := by decide +kernel
theorem dX4_run_157 : decode cX4_run 157 = .ok (.aload_n 0, 1) := by decide +kernel
theorem dX4_run_158 : decode cX4_run 158 = .ok (.getfield 7, 3) := by decide +kernel
theorem dX4_run_161 : decode cX4_run 161 = .ok (.iload 9, 2) := by decide +kernel
theorem dX4_run_163 : decode cX4_run 163 = .ok (.laload, 1) := by decide +kernel
theorem dX4_run_164 : decode cX4_run 164 = .ok (.lload 4, 2) := by decide +kernel
theorem dX4_run_166 : decode cX4_run 166 = .ok (.aload_n 0, 1) := by decide +kernel
theorem dX4_run_167 : decode cX4_run 167 = .ok (.getfield 60, 3) := by decide +kernel
theorem dX4_run_170 : decode cX4_run 170 = .ok (.iload 8, 2) := by decide +kernel
theorem dX4_run_172 : decode cX4_run 172 = .ok (.laload, 1) := by decide +kernel
theorem dX4_run_173 : decode cX4_run 173 = .ok (.lmul, 1) := by decide +kernel
theorem dX4_run_174 : decode cX4_run 174 = .ok (.lsub, 1) := by decide +kernel
theorem dX4_run_175 : decode cX4_run 175 = .ok (.lastore, 1) := by decide +kernel
theorem dX4_run_176 : decode cX4_run 176 = .ok (.iinc 8 1, 3) := by decide +kernel
theorem dX4_run_179 : decode cX4_run 179 = .ok (.goto (-53), 3) := by decide +kernel
theorem dX4_run_182 : decode cX4_run 182 = .ok (.iload 7, 2) := by decide +kernel
theorem dX4_run_184 : decode cX4_run 184 = .ok (.ireturn, 1) := by decide +kernel
theorem dX4_logged_0 : decode cX4_logged 0 = .ok (.lconst 0, 1) := by decide +kernel
theorem dX4_logged_1 : decode cX4_logged 1 = .ok (.lstore_n 3, 1) := by decide +kernel
theorem dX4_logged_2 : decode cX4_logged 2 = .ok (.iconst 0, 1) := by decide +kernel
theorem dX4_logged_3 : decode cX4_logged 3 = .ok (.istore 5, 2) := by decide +kernel
theorem dX4_logged_5 : decode cX4_logged 5 = .ok (.iload 5, 2) := by decide +kernel
theorem dX4_logged_7 : decode cX4_logged 7 = .ok (.iload_n 2, 1) := by decide +kernel
theorem dX4_logged_8 : decode cX4_logged 8 = .ok (.if_icmp .ge 109, 3) := by decide +kernel
theorem dX4_logged_11 : decode cX4_logged 11 = .ok (.aload_n 0, 1) := by decide +kernel
theorem dX4_logged_12 : decode cX4_logged 12 = .ok (.aload_n 0, 1) := by decide +kernel
theorem dX4_logged_13 : decode cX4_logged 13 = .ok (.getfield 33, 3) := by decide +kernel
theorem dX4_logged_16 : decode cX4_logged 16 = .ok (.iload 5, 2) := by decide +kernel
theorem dX4_logged_18 : decode cX4_logged 18 = .ok (.iaload, 1) := by decide +kernel
theorem dX4_logged_19 : decode cX4_logged 19 = .ok (.aload_n 0, 1) := by decide +kernel
theorem dX4_logged_20 : decode cX4_logged 20 = .ok (.getfield 36, 3) := by decide +kernel
theorem dX4_logged_23 : decode cX4_logged 23 = .ok (.iload 5, 2) := by decide +kernel
theorem dX4_logged_25 : decode cX4_logged 25 = .ok (.laload, 1) := by decide +kernel
theorem dX4_logged_26 : decode cX4_logged 26 = .ok (.invokevirtual 100, 3) := by decide +kernel
theorem dX4_logged_29 : decode cX4_logged 29 = .ok (.iconst 0, 1) := by decide +kernel
theorem dX4_logged_30 : decode cX4_logged 30 = .ok (.istore 6, 2) := by decide +kernel
theorem dX4_logged_32 : decode cX4_logged 32 = .ok (.iload 6, 2) := by decide +kernel
theorem dX4_logged_34 : decode cX4_logged 34 = .ok (.aload_n 0, 1) := by decide +kernel
theorem dX4_logged_35 : decode cX4_logged 35 = .ok (.getfield 16, 3) := by decide +kernel
theorem dX4_logged_38 : decode cX4_logged 38 = .ok (.aload_n 0, 1) := by decide +kernel
theorem dX4_logged_39 : decode cX4_logged 39 = .ok (.getfield 33, 3) := by decide +kernel
theorem dX4_logged_42 : decode cX4_logged 42 = .ok (.iload 5, 2) := by decide +kernel
theorem dX4_logged_44 : decode cX4_logged 44 = .ok (.iaload, 1) := by decide +kernel
theorem dX4_logged_45 : decode cX4_logged 45 = .ok (.iaload, 1) := by decide +kernel
theorem dX4_logged_46 : decode cX4_logged 46 = .ok (.if_icmp .ge 65, 3) := by decide +kernel
theorem dX4_logged_49 : decode cX4_logged 49 = .ok (.aload_n 0, 1) := by decide +kernel
theorem dX4_logged_50 : decode cX4_logged 50 = .ok (.getfield 23, 3) := by decide +kernel
theorem dX4_logged_53 : decode cX4_logged 53 = .ok (.iconst 4, 1) := by decide +kernel
theorem dX4_logged_54 : decode cX4_logged 54 = .ok (.aload_n 0, 1) := by decide +kernel
theorem dX4_logged_55 : decode cX4_logged 55 = .ok (.getfield 33, 3) := by decide +kernel
theorem dX4_logged_58 : decode cX4_logged 58 = .ok (.iload 5, 2) := by decide +kernel
theorem dX4_logged_60 : decode cX4_logged 60 = .ok (.iaload, 1) := by decide +kernel
theorem dX4_logged_61 : decode cX4_logged 61 = .ok (.imul, 1) := by decide +kernel
theorem dX4_logged_62 : decode cX4_logged 62 = .ok (.iload 6, 2) := by decide +kernel
theorem dX4_logged_64 : decode cX4_logged 64 = .ok (.iadd, 1) := by decide +kernel
theorem dX4_logged_65 : decode cX4_logged 65 = .ok (.iaload, 1) := by decide +kernel
theorem dX4_logged_66 : decode cX4_logged 66 = .ok (.iload_n 1, 1) := by decide +kernel
theorem dX4_logged_67 : decode cX4_logged 67 = .ok (.if_icmp .ne 13, 3) := by decide +kernel
theorem dX4_logged_70 : decode cX4_logged 70 = .ok (.aload_n 0, 1) := by decide +kernel
theorem dX4_logged_71 : decode cX4_logged 71 = .ok (.getfield 60, 3) := by decide +kernel
theorem dX4_logged_74 : decode cX4_logged 74 = .ok (.iload 6, 2) := by decide +kernel
theorem dX4_logged_76 : decode cX4_logged 76 = .ok (.laload, 1) := by decide +kernel
theorem dX4_logged_77 : decode cX4_logged 77 = .ok (.goto 4, 3) := by decide +kernel
theorem dX4_logged_80 : decode cX4_logged 80 = .ok (.lconst 0, 1) := by decide +kernel
theorem dX4_logged_81 : decode cX4_logged 81 = .ok (.lstore 7, 2) := by decide +kernel
theorem dX4_logged_83 : decode cX4_logged 83 = .ok (.aload_n 0, 1) := by decide +kernel
theorem dX4_logged_84 : decode cX4_logged 84 = .ok (.getfield 45, 3) := by decide +kernel
theorem dX4_logged_87 : decode cX4_logged 87 = .ok (.iload 5, 2) := by decide +kernel
theorem dX4_logged_89 : decode cX4_logged 89 = .ok (.iaload, 1) := by decide +kernel
theorem dX4_logged_90 : decode cX4_logged 90 = .ok (.ifCond .lt 10, 3) := by decide +kernel
theorem dX4_logged_93 : decode cX4_logged 93 = .ok (.lload_n 3, 1) := by decide +kernel
theorem dX4_logged_94 : decode cX4_logged 94 = .ok (.lload 7, 2) := by decide +kernel
theorem dX4_logged_96 : decode cX4_logged 96 = .ok (.lsub, 1) := by decide +kernel
theorem dX4_logged_97 : decode cX4_logged 97 = .ok (.goto 7, 3) := by decide +kernel
theorem dX4_logged_100 : decode cX4_logged 100 = .ok (.lload_n 3, 1) := by decide +kernel
theorem dX4_logged_101 : decode cX4_logged 101 = .ok (.lload 7, 2) := by decide +kernel
theorem dX4_logged_103 : decode cX4_logged 103 = .ok (.ladd, 1) := by decide +kernel
theorem dX4_logged_104 : decode cX4_logged 104 = .ok (.lstore_n 3, 1) := by decide +kernel
theorem dX4_logged_105 : decode cX4_logged 105 = .ok (.iinc 6 1, 3) := by decide +kernel
theorem dX4_logged_108 : decode cX4_logged 108 = .ok (.goto (-76), 3) := by decide +kernel
theorem dX4_logged_111 : decode cX4_logged 111 = .ok (.iinc 5 1, 3) := by decide +kernel
theorem dX4_logged_114 : decode cX4_logged 114 = .ok (.goto (-109), 3) := by decide +kernel
theorem dX4_logged_117 : decode cX4_logged 117 = .ok (.lload_n 3, 1) := by decide +kernel
theorem dX4_logged_118 : decode cX4_logged 118 = .ok (.lreturn, 1) := by decide +kernel
theorem dX4_isSound_0 : decode cX4_isSound 0 = .ok (.iconst 1, 1) := by decide +kernel
theorem dX4_isSound_1 : decode cX4_isSound 1 = .ok (.istore_n 1, 1) := by decide +kernel
theorem dX4_isSound_2 : decode cX4_isSound 2 = .ok (.iconst 0, 1) := by decide +kernel
theorem dX4_isSound_3 : decode cX4_isSound 3 = .ok (.istore_n 2, 1) := by decide +kernel
theorem dX4_isSound_4 : decode cX4_isSound 4 = .ok (.iload_n 2, 1) := by decide +kernel
theorem dX4_isSound_5 : decode cX4_isSound 5 = .ok (.bipush 8, 2) := by decide +kernel
theorem dX4_isSound_7 : decode cX4_isSound 7 = .ok (.if_icmp .ge 38, 3) := by decide +kernel
theorem dX4_isSound_10 : decode cX4_isSound 10 = .ok (.iload_n 1, 1) := by decide +kernel
theorem dX4_isSound_11 : decode cX4_isSound 11 = .ok (.ifCond .eq 26, 3) := by decide +kernel
theorem dX4_isSound_14 : decode cX4_isSound 14 = .ok (.aload_n 0, 1) := by decide +kernel
theorem dX4_isSound_15 : decode cX4_isSound 15 = .ok (.getfield 7, 3) := by decide +kernel
theorem dX4_isSound_18 : decode cX4_isSound 18 = .ok (.iload_n 2, 1) := by decide +kernel
theorem dX4_isSound_19 : decode cX4_isSound 19 = .ok (.laload, 1) := by decide +kernel
theorem dX4_isSound_20 : decode cX4_isSound 20 = .ok (.aload_n 0, 1) := by decide +kernel
theorem dX4_isSound_21 : decode cX4_isSound 21 = .ok (.iload_n 2, 1) := by decide +kernel
theorem dX4_isSound_22 : decode cX4_isSound 22 = .ok (.aload_n 0, 1) := by decide +kernel
theorem dX4_isSound_23 : decode cX4_isSound 23 = .ok (.getfield 104, 3) := by decide +kernel
theorem dX4_isSound_26 : decode cX4_isSound 26 = .ok (.invokevirtual 107, 3) := by decide +kernel
theorem dX4_isSound_29 : decode cX4_isSound 29 = .ok (.lcmp, 1) := by decide +kernel
theorem dX4_isSound_30 : decode cX4_isSound 30 = .ok (.ifCond .ne 7, 3) := by decide +kernel
theorem dX4_isSound_33 : decode cX4_isSound 33 = .ok (.iconst 1, 1) := by decide +kernel
theorem dX4_isSound_34 : decode cX4_isSound 34 = .ok (.goto 4, 3) := by decide +kernel
theorem dX4_isSound_37 : decode cX4_isSound 37 = .ok (.iconst 0, 1) := by decide +kernel
theorem dX4_isSound_38 : decode cX4_isSound 38 = .ok (.istore_n 1, 1) := by decide +kernel
theorem dX4_isSound_39 : decode cX4_isSound 39 = .ok (.iinc 2 1, 3) := by decide +kernel
theorem dX4_isSound_42 : decode cX4_isSound 42 = .ok (.goto (-38), 3) := by decide +kernel
theorem dX4_isSound_45 : decode cX4_isSound 45 = .ok (.iload_n 1, 1) := by decide +kernel
theorem dX4_isSound_46 : decode cX4_isSound 46 = .ok (.ireturn, 1) := by decide +kernel
theorem dX4_sound_0 : decode cX4_sound 0 = .ok (.aload_n 0, 1) := by decide +kernel
theorem dX4_sound_1 : decode cX4_sound 1 = .ok (.iconst 0, 1) := by decide +kernel
theorem dX4_sound_2 : decode cX4_sound 2 = .ok (.putfield 65, 3) := by decide +kernel
theorem dX4_sound_5 : decode cX4_sound 5 = .ok (.aload_n 0, 1) := by decide +kernel
theorem dX4_sound_6 : decode cX4_sound 6 = .ok (.invokevirtual 111, 3) := by decide +kernel
theorem dX4_sound_9 : decode cX4_sound 9 = .ok (.ireturn, 1) := by decide +kernel
theorem dX4_enter_0 : decode cX4_enter 0 = .ok (.aload_n 0, 1) := by decide +kernel
theorem dX4_enter_1 : decode cX4_enter 1 = .ok (.invokevirtual 111, 3) := by decide +kernel
theorem dX4_enter_4 : decode cX4_enter 4 = .ok (.ifCond .eq 33, 3) := by decide +kernel
theorem dX4_enter_7 : decode cX4_enter 7 = .ok (.aload_n 0, 1) := by decide +kernel
theorem dX4_enter_8 : decode cX4_enter 8 = .ok (.getfield 104, 3) := by decide +kernel
theorem dX4_enter_11 : decode cX4_enter 11 = .ok (.bipush 40, 2) := by decide +kernel
theorem dX4_enter_13 : decode cX4_enter 13 = .ok (.if_icmp .eq 24, 3) := by decide +kernel
theorem dX4_enter_16 : decode cX4_enter 16 = .ok (.aload_n 0, 1) := by decide +kernel
theorem dX4_enter_17 : decode cX4_enter 17 = .ok (.iload_n 1, 1) := by decide +kernel
theorem dX4_enter_18 : decode cX4_enter 18 = .ok (.lload_n 2, 1) := by decide +kernel
theorem dX4_enter_19 : decode cX4_enter 19 = .ok (.iload 6, 2) := by decide +kernel
theorem dX4_enter_21 : decode cX4_enter 21 = .ok (.ifCond .lt 9, 3) := by decide +kernel
theorem dX4_enter_24 : decode cX4_enter 24 = .ok (.ldc2_w 115, 3) := by decide +kernel
theorem dX4_enter_27 : decode cX4_enter 27 = .ok (.goto 4, 3) := by decide +kernel
theorem dX4_enter_30 : decode cX4_enter 30 = .ok (.lconst 1, 1) := by decide +kernel
theorem dX4_enter_31 : decode cX4_enter 31 = .ok (.invokevirtual 117, 3) := by decide +kernel
theorem dX4_enter_34 : decode cX4_enter 34 = .ok (.ifCond .ne 5, 3) := by decide +kernel
theorem dX4_enter_37 : decode cX4_enter 37 = .ok (.iconst (-1), 1) := by decide +kernel
theorem dX4_enter_38 : decode cX4_enter 38 = .ok (.ireturn, 1) := by decide +kernel
theorem dX4_enter_39 : decode cX4_enter 39 = .ok (.aload_n 0, 1) := by decide +kernel
theorem dX4_enter_40 : decode cX4_enter 40 = .ok (.getfield 33, 3) := by decide +kernel
theorem dX4_enter_43 : decode cX4_enter 43 = .ok (.aload_n 0, 1) := by decide +kernel
theorem dX4_enter_44 : decode cX4_enter 44 = .ok (.getfield 104, 3) := by decide +kernel
theorem dX4_enter_47 : decode cX4_enter 47 = .ok (.iload_n 1, 1) := by decide +kernel
theorem dX4_enter_48 : decode cX4_enter 48 = .ok (.iastore, 1) := by decide +kernel
theorem dX4_enter_49 : decode cX4_enter 49 = .ok (.aload_n 0, 1) := by decide +kernel
theorem dX4_enter_50 : decode cX4_enter 50 = .ok (.getfield 36, 3) := by decide +kernel
theorem dX4_enter_53 : decode cX4_enter 53 = .ok (.aload_n 0, 1) := by decide +kernel
theorem dX4_enter_54 : decode cX4_enter 54 = .ok (.getfield 104, 3) := by decide +kernel
theorem dX4_enter_57 : decode cX4_enter 57 = .ok (.lload_n 2, 1) := by decide +kernel
theorem dX4_enter_58 : decode cX4_enter 58 = .ok (.lastore, 1) := by decide +kernel
theorem dX4_enter_59 : decode cX4_enter 59 = .ok (.aload_n 0, 1) := by decide +kernel
theorem dX4_enter_60 : decode cX4_enter 60 = .ok (.getfield 39, 3) := by decide +kernel
theorem dX4_enter_63 : decode cX4_enter 63 = .ok (.aload_n 0, 1) := by decide +kernel
theorem dX4_enter_64 : decode cX4_enter 64 = .ok (.getfield 104, 3) := by decide +kernel
theorem dX4_enter_67 : decode cX4_enter 67 = .ok (.iload 4, 2) := by decide +kernel
theorem dX4_enter_69 : decode cX4_enter 69 = .ok (.iastore, 1) := by decide +kernel
theorem dX4_enter_70 : decode cX4_enter 70 = .ok (.aload_n 0, 1) := by decide +kernel
theorem dX4_enter_71 : decode cX4_enter 71 = .ok (.getfield 42, 3) := by decide +kernel
theorem dX4_enter_74 : decode cX4_enter 74 = .ok (.aload_n 0, 1) := by decide +kernel
theorem dX4_enter_75 : decode cX4_enter 75 = .ok (.getfield 104, 3) := by decide +kernel
theorem dX4_enter_78 : decode cX4_enter 78 = .ok (.iload 5, 2) := by decide +kernel
theorem dX4_enter_80 : decode cX4_enter 80 = .ok (.iastore, 1) := by decide +kernel
theorem dX4_enter_81 : decode cX4_enter 81 = .ok (.aload_n 0, 1) := by decide +kernel
theorem dX4_enter_82 : decode cX4_enter 82 = .ok (.getfield 45, 3) := by decide +kernel
theorem dX4_enter_85 : decode cX4_enter 85 = .ok (.aload_n 0, 1) := by decide +kernel
theorem dX4_enter_86 : decode cX4_enter 86 = .ok (.getfield 104, 3) := by decide +kernel
theorem dX4_enter_89 : decode cX4_enter 89 = .ok (.iload 6, 2) := by decide +kernel
theorem dX4_enter_91 : decode cX4_enter 91 = .ok (.iastore, 1) := by decide +kernel
theorem dX4_enter_92 : decode cX4_enter 92 = .ok (.aload_n 0, 1) := by decide +kernel
theorem dX4_enter_93 : decode cX4_enter 93 = .ok (.getfield 48, 3) := by decide +kernel
theorem dX4_enter_96 : decode cX4_enter 96 = .ok (.aload_n 0, 1) := by decide +kernel
theorem dX4_enter_97 : decode cX4_enter 97 = .ok (.getfield 104, 3) := by decide +kernel
theorem dX4_enter_100 : decode cX4_enter 100 = .ok (.iconst (-1), 1) := by decide +kernel
theorem dX4_enter_101 : decode cX4_enter 101 = .ok (.iastore, 1) := by decide +kernel
theorem dX4_enter_102 : decode cX4_enter 102 = .ok (.iload 6, 2) := by decide +kernel
theorem dX4_enter_104 : decode cX4_enter 104 = .ok (.ifCond .lt 14, 3) := by decide +kernel
theorem dX4_enter_107 : decode cX4_enter 107 = .ok (.aload_n 0, 1) := by decide +kernel
theorem dX4_enter_108 : decode cX4_enter 108 = .ok (.getfield 48, 3) := by decide +kernel
theorem dX4_enter_111 : decode cX4_enter 111 = .ok (.iload 6, 2) := by decide +kernel
theorem dX4_enter_113 : decode cX4_enter 113 = .ok (.aload_n 0, 1) := by decide +kernel
theorem dX4_enter_114 : decode cX4_enter 114 = .ok (.getfield 104, 3) := by decide +kernel
theorem dX4_enter_117 : decode cX4_enter 117 = .ok (.iastore, 1) := by decide +kernel
theorem dX4_enter_118 : decode cX4_enter 118 = .ok (.aload_n 0, 1) := by decide +kernel
theorem dX4_enter_119 : decode cX4_enter 119 = .ok (.dup, 1) := by decide +kernel
theorem dX4_enter_120 : decode cX4_enter 120 = .ok (.getfield 104, 3) := by decide +kernel
theorem dX4_enter_123 : decode cX4_enter 123 = .ok (.iconst 1, 1) := by decide +kernel
theorem dX4_enter_124 : decode cX4_enter 124 = .ok (.iadd, 1) := by decide +kernel
theorem dX4_enter_125 : decode cX4_enter 125 = .ok (.putfield 104, 3) := by decide +kernel
theorem dX4_enter_128 : decode cX4_enter 128 = .ok (.aload_n 0, 1) := by decide +kernel
theorem dX4_enter_129 : decode cX4_enter 129 = .ok (.getfield 104, 3) := by decide +kernel
theorem dX4_enter_132 : decode cX4_enter 132 = .ok (.iconst 1, 1) := by decide +kernel
theorem dX4_enter_133 : decode cX4_enter 133 = .ok (.isub, 1) := by decide +kernel
theorem dX4_enter_134 : decode cX4_enter 134 = .ok (.ireturn, 1) := by decide +kernel
theorem dX4_freeRequest_0 : decode cX4_freeRequest 0 = .ok (.iconst (-1), 1) := by decide +kernel
theorem dX4_freeRequest_1 : decode cX4_freeRequest 1 = .ok (.istore_n 1, 1) := by decide +kernel
theorem dX4_freeRequest_2 : decode cX4_freeRequest 2 = .ok (.iconst 5, 1) := by decide +kernel
theorem dX4_freeRequest_3 : decode cX4_freeRequest 3 = .ok (.istore_n 2, 1) := by decide +kernel
theorem dX4_freeRequest_4 : decode cX4_freeRequest 4 = .ok (.iload_n 2, 1) := by decide +kernel
theorem dX4_freeRequest_5 : decode cX4_freeRequest 5 = .ok (.ifCond .lt 24, 3) := by decide +kernel
theorem dX4_freeRequest_8 : decode cX4_freeRequest 8 = .ok (.aload_n 0, 1) := by decide +kernel
theorem dX4_freeRequest_9 : decode cX4_freeRequest 9 = .ok (.getfield 51, 3) := by decide +kernel
theorem dX4_freeRequest_12 : decode cX4_freeRequest 12 = .ok (.iload_n 2, 1) := by decide +kernel
theorem dX4_freeRequest_13 : decode cX4_freeRequest 13 = .ok (.iaload, 1) := by decide +kernel
theorem dX4_freeRequest_14 : decode cX4_freeRequest 14 = .ok (.ifCond .ge 7, 3) := by decide +kernel
theorem dX4_freeRequest_17 : decode cX4_freeRequest 17 = .ok (.iload_n 2, 1) := by decide +kernel
theorem dX4_freeRequest_18 : decode cX4_freeRequest 18 = .ok (.goto 4, 3) := by decide +kernel
theorem dX4_freeRequest_21 : decode cX4_freeRequest 21 = .ok (.iload_n 1, 1) := by decide +kernel
theorem dX4_freeRequest_22 : decode cX4_freeRequest 22 = .ok (.istore_n 1, 1) := by decide +kernel
theorem dX4_freeRequest_23 : decode cX4_freeRequest 23 = .ok (.iinc 2 (-1), 3) := by decide +kernel
theorem dX4_freeRequest_26 : decode cX4_freeRequest 26 = .ok (.goto (-22), 3) := by decide +kernel
theorem dX4_freeRequest_29 : decode cX4_freeRequest 29 = .ok (.iload_n 1, 1) := by decide +kernel
theorem dX4_freeRequest_30 : decode cX4_freeRequest 30 = .ok (.ireturn, 1) := by decide +kernel
theorem dX4_request_0 : decode cX4_request 0 = .ok (.aload_n 0, 1) := by decide +kernel
theorem dX4_request_1 : decode cX4_request 1 = .ok (.invokevirtual 121, 3) := by decide +kernel
theorem dX4_request_4 : decode cX4_request 4 = .ok (.istore 5, 2) := by decide +kernel
theorem dX4_request_6 : decode cX4_request 6 = .ok (.iload 5, 2) := by decide +kernel
theorem dX4_request_8 : decode cX4_request 8 = .ok (.ifCond .lt 19, 3) := by decide +kernel
theorem dX4_request_11 : decode cX4_request 11 = .ok (.aload_n 0, 1) := by decide +kernel
theorem dX4_request_12 : decode cX4_request 12 = .ok (.invokevirtual 111, 3) := by decide +kernel
theorem dX4_request_15 : decode cX4_request 15 = .ok (.ifCond .eq 12, 3) := by decide +kernel
theorem dX4_request_18 : decode cX4_request 18 = .ok (.aload_n 0, 1) := by decide +kernel
theorem dX4_request_19 : decode cX4_request 19 = .ok (.getfield 104, 3) := by decide +kernel
theorem dX4_request_22 : decode cX4_request 22 = .ok (.bipush 40, 2) := by decide +kernel
theorem dX4_request_24 : decode cX4_request 24 = .ok (.if_icmp .ne 5, 3) := by decide +kernel
theorem dX4_request_27 : decode cX4_request 27 = .ok (.iconst (-1), 1) := by decide +kernel
theorem dX4_request_28 : decode cX4_request 28 = .ok (.ireturn, 1) := by decide +kernel
theorem dX4_request_29 : decode cX4_request 29 = .ok (.aload_n 0, 1) := by decide +kernel
theorem dX4_request_30 : decode cX4_request 30 = .ok (.getfield 51, 3) := by decide +kernel
theorem dX4_request_33 : decode cX4_request 33 = .ok (.iload 5, 2) := by decide +kernel
theorem dX4_request_35 : decode cX4_request 35 = .ok (.iload_n 1, 1) := by decide +kernel
theorem dX4_request_36 : decode cX4_request 36 = .ok (.iastore, 1) := by decide +kernel
theorem dX4_request_37 : decode cX4_request 37 = .ok (.aload_n 0, 1) := by decide +kernel
theorem dX4_request_38 : decode cX4_request 38 = .ok (.getfield 54, 3) := by decide +kernel
theorem dX4_request_41 : decode cX4_request 41 = .ok (.iload 5, 2) := by decide +kernel
theorem dX4_request_43 : decode cX4_request 43 = .ok (.iload_n 2, 1) := by decide +kernel
theorem dX4_request_44 : decode cX4_request 44 = .ok (.iastore, 1) := by decide +kernel
theorem dX4_request_45 : decode cX4_request 45 = .ok (.aload_n 0, 1) := by decide +kernel
theorem dX4_request_46 : decode cX4_request 46 = .ok (.getfield 57, 3) := by decide +kernel
theorem dX4_request_49 : decode cX4_request 49 = .ok (.iload 5, 2) := by decide +kernel
theorem dX4_request_51 : decode cX4_request 51 = .ok (.lload_n 3, 1) := by decide +kernel
theorem dX4_request_52 : decode cX4_request 52 = .ok (.lastore, 1) := by decide +kernel
theorem dX4_request_53 : decode cX4_request 53 = .ok (.bipush 100, 2) := by decide +kernel
theorem dX4_request_55 : decode cX4_request 55 = .ok (.iload 5, 2) := by decide +kernel
theorem dX4_request_57 : decode cX4_request 57 = .ok (.iadd, 1) := by decide +kernel
theorem dX4_request_58 : decode cX4_request 58 = .ok (.ireturn, 1) := by decide +kernel
theorem dX4_ask_0 : decode cX4_ask 0 = .ok (.aload_n 0, 1) := by decide +kernel
theorem dX4_ask_1 : decode cX4_ask 1 = .ok (.iload_n 1, 1) := by decide +kernel
theorem dX4_ask_2 : decode cX4_ask 2 = .ok (.invokestatic 72, 3) := by decide +kernel
theorem dX4_ask_5 : decode cX4_ask 5 = .ok (.ifCond .eq 11, 3) := by decide +kernel
theorem dX4_ask_8 : decode cX4_ask 8 = .ok (.aload_n 0, 1) := by decide +kernel
theorem dX4_ask_9 : decode cX4_ask 9 = .ok (.iload_n 2, 1) := by decide +kernel
theorem dX4_ask_10 : decode cX4_ask 10 = .ok (.invokevirtual 79, 3) := by decide +kernel
theorem dX4_ask_13 : decode cX4_ask 13 = .ok (.ifCond .ne 7, 3) := by decide +kernel
theorem dX4_ask_16 : decode cX4_ask 16 = .ok (.iconst 1, 1) := by decide +kernel
theorem dX4_ask_17 : decode cX4_ask 17 = .ok (.goto 35, 3) := by decide +kernel
theorem dX4_ask_20 : decode cX4_ask 20 = .ok (.aload_n 0, 1) := by decide +kernel
theorem dX4_ask_21 : decode cX4_ask 21 = .ok (.iload_n 1, 1) := by decide +kernel
theorem dX4_ask_22 : decode cX4_ask 22 = .ok (.iload_n 2, 1) := by decide +kernel
theorem dX4_ask_23 : decode cX4_ask 23 = .ok (.invokevirtual 93, 3) := by decide +kernel
theorem dX4_ask_26 : decode cX4_ask 26 = .ok (.ifCond .ne 7, 3) := by decide +kernel
theorem dX4_ask_29 : decode cX4_ask 29 = .ok (.iconst 2, 1) := by decide +kernel
theorem dX4_ask_30 : decode cX4_ask 30 = .ok (.goto 22, 3) := by decide +kernel
theorem dX4_ask_33 : decode cX4_ask 33 = .ok (.lload_n 3, 1) := by decide +kernel
theorem dX4_ask_34 : decode cX4_ask 34 = .ok (.lconst 1, 1) := by decide +kernel
theorem dX4_ask_35 : decode cX4_ask 35 = .ok (.lcmp, 1) := by decide +kernel
theorem dX4_ask_36 : decode cX4_ask 36 = .ok (.ifCond .lt 11, 3) := by decide +kernel
theorem dX4_ask_39 : decode cX4_ask 39 = .ok (.lload_n 3, 1) := by decide +kernel
theorem dX4_ask_40 : decode cX4_ask 40 = .ok (.ldc2_w 125, 3) := by decide +kernel
theorem dX4_ask_43 : decode cX4_ask 43 = .ok (.lcmp, 1) := by decide +kernel
theorem dX4_ask_44 : decode cX4_ask 44 = .ok (.ifCond .le 7, 3) := by decide +kernel
theorem dX4_ask_47 : decode cX4_ask 47 = .ok (.iconst 3, 1) := by decide +kernel
theorem dX4_ask_48 : decode cX4_ask 48 = .ok (.goto 4, 3) := by decide +kernel
theorem dX4_ask_51 : decode cX4_ask 51 = .ok (.iconst 0, 1) := by decide +kernel
theorem dX4_ask_52 : decode cX4_ask 52 = .ok (.putfield 65, 3) := by decide +kernel
theorem dX4_ask_55 : decode cX4_ask 55 = .ok (.aload_n 0, 1) := by decide +kernel
theorem dX4_ask_56 : decode cX4_ask 56 = .ok (.getfield 65, 3) := by decide +kernel
theorem dX4_ask_59 : decode cX4_ask 59 = .ok (.ifCond .le 5, 3) := by decide +kernel
theorem dX4_ask_62 : decode cX4_ask 62 = .ok (.iconst 0, 1) := by decide +kernel
theorem dX4_ask_63 : decode cX4_ask 63 = .ok (.ireturn, 1) := by decide +kernel
theorem dX4_ask_64 : decode cX4_ask 64 = .ok (.lload_n 3, 1) := by decide +kernel
theorem dX4_ask_65 : decode cX4_ask 65 = .ok (.ldc2_w 127, 3) := by decide +kernel
theorem dX4_ask_68 : decode cX4_ask 68 = .ok (.lcmp, 1) := by decide +kernel
theorem dX4_ask_69 : decode cX4_ask 69 = .ok (.ifCond .le 13, 3) := by decide +kernel
theorem dX4_ask_72 : decode cX4_ask 72 = .ok (.aload_n 0, 1) := by decide +kernel
theorem dX4_ask_73 : decode cX4_ask 73 = .ok (.iload_n 1, 1) := by decide +kernel
theorem dX4_ask_74 : decode cX4_ask 74 = .ok (.iload_n 2, 1) := by decide +kernel
theorem dX4_ask_75 : decode cX4_ask 75 = .ok (.lload_n 3, 1) := by decide +kernel
theorem dX4_ask_76 : decode cX4_ask 76 = .ok (.invokevirtual 129, 3) := by decide +kernel
theorem dX4_ask_79 : decode cX4_ask 79 = .ok (.goto 12, 3) := by decide +kernel
theorem dX4_ask_82 : decode cX4_ask 82 = .ok (.aload_n 0, 1) := by decide +kernel
theorem dX4_ask_83 : decode cX4_ask 83 = .ok (.iload_n 2, 1) := by decide +kernel
theorem dX4_ask_84 : decode cX4_ask 84 = .ok (.lload_n 3, 1) := by decide +kernel
theorem dX4_ask_85 : decode cX4_ask 85 = .ok (.iload_n 1, 1) := by decide +kernel
theorem dX4_ask_86 : decode cX4_ask 86 = .ok (.iconst (-1), 1) := by decide +kernel
theorem dX4_ask_87 : decode cX4_ask 87 = .ok (.iconst (-1), 1) := by decide +kernel
theorem dX4_ask_88 : decode cX4_ask 88 = .ok (.invokevirtual 133, 3) := by decide +kernel
theorem dX4_ask_91 : decode cX4_ask 91 = .ok (.istore 5, 2) := by decide +kernel
theorem dX4_ask_93 : decode cX4_ask 93 = .ok (.aload_n 0, 1) := by decide +kernel
theorem dX4_ask_94 : decode cX4_ask 94 = .ok (.iload 5, 2) := by decide +kernel
theorem dX4_ask_96 : decode cX4_ask 96 = .ok (.ifCond .ge 7, 3) := by decide +kernel
theorem dX4_ask_99 : decode cX4_ask 99 = .ok (.iconst 4, 1) := by decide +kernel
theorem dX4_ask_100 : decode cX4_ask 100 = .ok (.goto 4, 3) := by decide +kernel
theorem dX4_ask_103 : decode cX4_ask 103 = .ok (.iconst 0, 1) := by decide +kernel
theorem dX4_ask_104 : decode cX4_ask 104 = .ok (.putfield 65, 3) := by decide +kernel
theorem dX4_ask_107 : decode cX4_ask 107 = .ok (.iload 5, 2) := by decide +kernel
theorem dX4_ask_109 : decode cX4_ask 109 = .ok (.ifCond .ge 7, 3) := by decide +kernel
theorem dX4_ask_112 : decode cX4_ask 112 = .ok (.iconst 0, 1) := by decide +kernel
theorem dX4_ask_113 : decode cX4_ask 113 = .ok (.goto 5, 3) := by decide +kernel
theorem dX4_ask_116 : decode cX4_ask 116 = .ok (.iload 5, 2) := by decide +kernel
theorem dX4_ask_118 : decode cX4_ask 118 = .ok (.ireturn, 1) := by decide +kernel
theorem dX4_isRequest_0 : decode cX4_isRequest 0 = .ok (.iload_n 1, 1) := by decide +kernel
theorem dX4_isRequest_1 : decode cX4_isRequest 1 = .ok (.ifCond .lt 22, 3) := by decide +kernel
theorem dX4_isRequest_4 : decode cX4_isRequest 4 = .ok (.iload_n 1, 1) := by decide +kernel
theorem dX4_isRequest_5 : decode cX4_isRequest 5 = .ok (.bipush 6, 2) := by decide +kernel
theorem dX4_isRequest_7 : decode cX4_isRequest 7 = .ok (.if_icmp .ge 16, 3) := by decide +kernel
theorem dX4_isRequest_10 : decode cX4_isRequest 10 = .ok (.aload_n 0, 1) := by decide +kernel
theorem dX4_isRequest_11 : decode cX4_isRequest 11 = .ok (.getfield 51, 3) := by decide +kernel
theorem dX4_isRequest_14 : decode cX4_isRequest 14 = .ok (.iload_n 1, 1) := by decide +kernel
theorem dX4_isRequest_15 : decode cX4_isRequest 15 = .ok (.iaload, 1) := by decide +kernel
theorem dX4_isRequest_16 : decode cX4_isRequest 16 = .ok (.ifCond .lt 7, 3) := by decide +kernel
theorem dX4_isRequest_19 : decode cX4_isRequest 19 = .ok (.iconst 1, 1) := by decide +kernel
theorem dX4_isRequest_20 : decode cX4_isRequest 20 = .ok (.goto 4, 3) := by decide +kernel
theorem dX4_isRequest_23 : decode cX4_isRequest 23 = .ok (.iconst 0, 1) := by decide +kernel
theorem dX4_isRequest_24 : decode cX4_isRequest 24 = .ok (.ireturn, 1) := by decide +kernel
theorem dX4_mayApprove_0 : decode cX4_mayApprove 0 = .ok (.aload_n 0, 1) := by decide +kernel
theorem dX4_mayApprove_1 : decode cX4_mayApprove 1 = .ok (.iload_n 1, 1) := by decide +kernel
theorem dX4_mayApprove_2 : decode cX4_mayApprove 2 = .ok (.aload_n 0, 1) := by decide +kernel
theorem dX4_mayApprove_3 : decode cX4_mayApprove 3 = .ok (.getfield 54, 3) := by decide +kernel
theorem dX4_mayApprove_6 : decode cX4_mayApprove 6 = .ok (.iload_n 2, 1) := by decide +kernel
theorem dX4_mayApprove_7 : decode cX4_mayApprove 7 = .ok (.iaload, 1) := by decide +kernel
theorem dX4_mayApprove_8 : decode cX4_mayApprove 8 = .ok (.invokevirtual 93, 3) := by decide +kernel
theorem dX4_mayApprove_11 : decode cX4_mayApprove 11 = .ok (.ifCond .eq 17, 3) := by decide +kernel
theorem dX4_mayApprove_14 : decode cX4_mayApprove 14 = .ok (.aload_n 0, 1) := by decide +kernel
theorem dX4_mayApprove_15 : decode cX4_mayApprove 15 = .ok (.getfield 51, 3) := by decide +kernel
theorem dX4_mayApprove_18 : decode cX4_mayApprove 18 = .ok (.iload_n 2, 1) := by decide +kernel
theorem dX4_mayApprove_19 : decode cX4_mayApprove 19 = .ok (.iaload, 1) := by decide +kernel
theorem dX4_mayApprove_20 : decode cX4_mayApprove 20 = .ok (.iload_n 1, 1) := by decide +kernel
theorem dX4_mayApprove_21 : decode cX4_mayApprove 21 = .ok (.if_icmp .eq 7, 3) := by decide +kernel
theorem dX4_mayApprove_24 : decode cX4_mayApprove 24 = .ok (.iconst 1, 1) := by decide +kernel
theorem dX4_mayApprove_25 : decode cX4_mayApprove 25 = .ok (.goto 4, 3) := by decide +kernel
theorem dX4_mayApprove_28 : decode cX4_mayApprove 28 = .ok (.iconst 0, 1) := by decide +kernel
theorem dX4_mayApprove_29 : decode cX4_mayApprove 29 = .ok (.ireturn, 1) := by decide +kernel
theorem dX4_approve_0 : decode cX4_approve 0 = .ok (.aload_n 0, 1) := by decide +kernel
theorem dX4_approve_1 : decode cX4_approve 1 = .ok (.iload_n 1, 1) := by decide +kernel
theorem dX4_approve_2 : decode cX4_approve 2 = .ok (.invokestatic 72, 3) := by decide +kernel
theorem dX4_approve_5 : decode cX4_approve 5 = .ok (.ifCond .eq 11, 3) := by decide +kernel
theorem dX4_approve_8 : decode cX4_approve 8 = .ok (.aload_n 0, 1) := by decide +kernel
theorem dX4_approve_9 : decode cX4_approve 9 = .ok (.iload_n 2, 1) := by decide +kernel
theorem dX4_approve_10 : decode cX4_approve 10 = .ok (.invokevirtual 137, 3) := by decide +kernel
theorem dX4_approve_13 : decode cX4_approve 13 = .ok (.ifCond .ne 7, 3) := by decide +kernel
theorem dX4_approve_16 : decode cX4_approve 16 = .ok (.iconst 1, 1) := by decide +kernel
theorem dX4_approve_17 : decode cX4_approve 17 = .ok (.goto 36, 3) := by decide +kernel
theorem dX4_approve_20 : decode cX4_approve 20 = .ok (.aload_n 0, 1) := by decide +kernel
theorem dX4_approve_21 : decode cX4_approve 21 = .ok (.iload_n 1, 1) := by decide +kernel
theorem dX4_approve_22 : decode cX4_approve 22 = .ok (.iload_n 2, 1) := by decide +kernel
theorem dX4_approve_23 : decode cX4_approve 23 = .ok (.invokevirtual 140, 3) := by decide +kernel
theorem dX4_approve_26 : decode cX4_approve 26 = .ok (.ifCond .eq 22, 3) := by decide +kernel
theorem dX4_approve_29 : decode cX4_approve 29 = .ok (.aload_n 0, 1) := by decide +kernel
theorem dX4_approve_30 : decode cX4_approve 30 = .ok (.aload_n 0, 1) := by decide +kernel
theorem dX4_approve_31 : decode cX4_approve 31 = .ok (.getfield 51, 3) := by decide +kernel
theorem dX4_approve_34 : decode cX4_approve 34 = .ok (.iload_n 2, 1) := by decide +kernel
theorem dX4_approve_35 : decode cX4_approve 35 = .ok (.iaload, 1) := by decide +kernel
theorem dX4_approve_36 : decode cX4_approve 36 = .ok (.aload_n 0, 1) := by decide +kernel
theorem dX4_approve_37 : decode cX4_approve 37 = .ok (.getfield 54, 3) := by decide +kernel
theorem dX4_approve_40 : decode cX4_approve 40 = .ok (.iload_n 2, 1) := by decide +kernel
theorem dX4_approve_41 : decode cX4_approve 41 = .ok (.iaload, 1) := by decide +kernel
theorem dX4_approve_42 : decode cX4_approve 42 = .ok (.invokevirtual 93, 3) := by decide +kernel
theorem dX4_approve_45 : decode cX4_approve 45 = .ok (.ifCond .ne 7, 3) := by decide +kernel
theorem dX4_approve_48 : decode cX4_approve 48 = .ok (.iconst 2, 1) := by decide +kernel
theorem dX4_approve_49 : decode cX4_approve 49 = .ok (.goto 4, 3) := by decide +kernel
theorem dX4_approve_52 : decode cX4_approve 52 = .ok (.iconst 0, 1) := by decide +kernel
theorem dX4_approve_53 : decode cX4_approve 53 = .ok (.putfield 65, 3) := by decide +kernel
theorem dX4_approve_56 : decode cX4_approve 56 = .ok (.aload_n 0, 1) := by decide +kernel
theorem dX4_approve_57 : decode cX4_approve 57 = .ok (.getfield 65, 3) := by decide +kernel
theorem dX4_approve_60 : decode cX4_approve 60 = .ok (.ifCond .le 5, 3) := by decide +kernel
theorem dX4_approve_63 : decode cX4_approve 63 = .ok (.iconst 0, 1) := by decide +kernel
theorem dX4_approve_64 : decode cX4_approve 64 = .ok (.ireturn, 1) := by decide +kernel
theorem dX4_approve_65 : decode cX4_approve 65 = .ok (.aload_n 0, 1) := by decide +kernel
theorem dX4_approve_66 : decode cX4_approve 66 = .ok (.aload_n 0, 1) := by decide +kernel
theorem dX4_approve_67 : decode cX4_approve 67 = .ok (.getfield 54, 3) := by decide +kernel
theorem dX4_approve_70 : decode cX4_approve 70 = .ok (.iload_n 2, 1) := by decide +kernel
theorem dX4_approve_71 : decode cX4_approve 71 = .ok (.iaload, 1) := by decide +kernel
theorem dX4_approve_72 : decode cX4_approve 72 = .ok (.aload_n 0, 1) := by decide +kernel
theorem dX4_approve_73 : decode cX4_approve 73 = .ok (.getfield 57, 3) := by decide +kernel
theorem dX4_approve_76 : decode cX4_approve 76 = .ok (.iload_n 2, 1) := by decide +kernel
theorem dX4_approve_77 : decode cX4_approve 77 = .ok (.laload, 1) := by decide +kernel
theorem dX4_approve_78 : decode cX4_approve 78 = .ok (.aload_n 0, 1) := by decide +kernel
theorem dX4_approve_79 : decode cX4_approve 79 = .ok (.getfield 51, 3) := by decide +kernel
theorem dX4_approve_82 : decode cX4_approve 82 = .ok (.iload_n 2, 1) := by decide +kernel
theorem dX4_approve_83 : decode cX4_approve 83 = .ok (.iaload, 1) := by decide +kernel
theorem dX4_approve_84 : decode cX4_approve 84 = .ok (.iload_n 1, 1) := by decide +kernel
theorem dX4_approve_85 : decode cX4_approve 85 = .ok (.iconst (-1), 1) := by decide +kernel
theorem dX4_approve_86 : decode cX4_approve 86 = .ok (.invokevirtual 133, 3) := by decide +kernel
theorem dX4_approve_89 : decode cX4_approve 89 = .ok (.istore_n 3, 1) := by decide +kernel
theorem dX4_approve_90 : decode cX4_approve 90 = .ok (.aload_n 0, 1) := by decide +kernel
theorem dX4_approve_91 : decode cX4_approve 91 = .ok (.iload_n 3, 1) := by decide +kernel
theorem dX4_approve_92 : decode cX4_approve 92 = .ok (.ifCond .ge 7, 3) := by decide +kernel
theorem dX4_approve_95 : decode cX4_approve 95 = .ok (.iconst 3, 1) := by decide +kernel
theorem dX4_approve_96 : decode cX4_approve 96 = .ok (.goto 4, 3) := by decide +kernel
theorem dX4_approve_99 : decode cX4_approve 99 = .ok (.iconst 0, 1) := by decide +kernel
theorem dX4_approve_100 : decode cX4_approve 100 = .ok (.putfield 65, 3) := by decide +kernel
theorem dX4_approve_103 : decode cX4_approve 103 = .ok (.iload_n 3, 1) := by decide +kernel
theorem dX4_approve_104 : decode cX4_approve 104 = .ok (.ifCond .ge 5, 3) := by decide +kernel
theorem dX4_approve_107 : decode cX4_approve 107 = .ok (.iconst 0, 1) := by decide +kernel
theorem dX4_approve_108 : decode cX4_approve 108 = .ok (.ireturn, 1) := by decide +kernel
theorem dX4_approve_109 : decode cX4_approve 109 = .ok (.aload_n 0, 1) := by decide +kernel
theorem dX4_approve_110 : decode cX4_approve 110 = .ok (.getfield 51, 3) := by decide +kernel
theorem dX4_approve_113 : decode cX4_approve 113 = .ok (.iload_n 2, 1) := by decide +kernel
theorem dX4_approve_114 : decode cX4_approve 114 = .ok (.iconst (-1), 1) := by decide +kernel
theorem dX4_approve_115 : decode cX4_approve 115 = .ok (.iastore, 1) := by decide +kernel
theorem dX4_approve_116 : decode cX4_approve 116 = .ok (.iload_n 3, 1) := by decide +kernel
theorem dX4_approve_117 : decode cX4_approve 117 = .ok (.ireturn, 1) := by decide +kernel
theorem dX4_withdraw_0 : decode cX4_withdraw 0 = .ok (.aload_n 0, 1) := by decide +kernel
theorem dX4_withdraw_1 : decode cX4_withdraw 1 = .ok (.iload_n 1, 1) := by decide +kernel
theorem dX4_withdraw_2 : decode cX4_withdraw 2 = .ok (.invokestatic 72, 3) := by decide +kernel
theorem dX4_withdraw_5 : decode cX4_withdraw 5 = .ok (.ifCond .eq 11, 3) := by decide +kernel
theorem dX4_withdraw_8 : decode cX4_withdraw 8 = .ok (.aload_n 0, 1) := by decide +kernel
theorem dX4_withdraw_9 : decode cX4_withdraw 9 = .ok (.iload_n 2, 1) := by decide +kernel
theorem dX4_withdraw_10 : decode cX4_withdraw 10 = .ok (.invokevirtual 137, 3) := by decide +kernel
theorem dX4_withdraw_13 : decode cX4_withdraw 13 = .ok (.ifCond .ne 7, 3) := by decide +kernel
theorem dX4_withdraw_16 : decode cX4_withdraw 16 = .ok (.iconst 1, 1) := by decide +kernel
theorem dX4_withdraw_17 : decode cX4_withdraw 17 = .ok (.goto 27, 3) := by decide +kernel
theorem dX4_withdraw_20 : decode cX4_withdraw 20 = .ok (.aload_n 0, 1) := by decide +kernel
theorem dX4_withdraw_21 : decode cX4_withdraw 21 = .ok (.getfield 51, 3) := by decide +kernel
theorem dX4_withdraw_24 : decode cX4_withdraw 24 = .ok (.iload_n 2, 1) := by decide +kernel
theorem dX4_withdraw_25 : decode cX4_withdraw 25 = .ok (.iaload, 1) := by decide +kernel
theorem dX4_withdraw_26 : decode cX4_withdraw 26 = .ok (.iload_n 1, 1) := by decide +kernel
theorem dX4_withdraw_27 : decode cX4_withdraw 27 = .ok (.if_icmp .eq 16, 3) := by decide +kernel
theorem dX4_withdraw_30 : decode cX4_withdraw 30 = .ok (.aload_n 0, 1) := by decide +kernel
theorem dX4_withdraw_31 : decode cX4_withdraw 31 = .ok (.iload_n 1, 1) := by decide +kernel
theorem dX4_withdraw_32 : decode cX4_withdraw 32 = .ok (.iload_n 2, 1) := by decide +kernel
theorem dX4_withdraw_33 : decode cX4_withdraw 33 = .ok (.invokevirtual 140, 3) := by decide +kernel
theorem dX4_withdraw_36 : decode cX4_withdraw 36 = .ok (.ifCond .ne 7, 3) := by decide +kernel
theorem dX4_withdraw_39 : decode cX4_withdraw 39 = .ok (.iconst 2, 1) := by decide +kernel
theorem dX4_withdraw_40 : decode cX4_withdraw 40 = .ok (.goto 4, 3) := by decide +kernel
theorem dX4_withdraw_43 : decode cX4_withdraw 43 = .ok (.iconst 0, 1) := by decide +kernel
theorem dX4_withdraw_44 : decode cX4_withdraw 44 = .ok (.putfield 65, 3) := by decide +kernel
theorem dX4_withdraw_47 : decode cX4_withdraw 47 = .ok (.aload_n 0, 1) := by decide +kernel
theorem dX4_withdraw_48 : decode cX4_withdraw 48 = .ok (.getfield 65, 3) := by decide +kernel
theorem dX4_withdraw_51 : decode cX4_withdraw 51 = .ok (.ifCond .ne 10, 3) := by decide +kernel
theorem dX4_withdraw_54 : decode cX4_withdraw 54 = .ok (.aload_n 0, 1) := by decide +kernel
theorem dX4_withdraw_55 : decode cX4_withdraw 55 = .ok (.getfield 51, 3) := by decide +kernel
theorem dX4_withdraw_58 : decode cX4_withdraw 58 = .ok (.iload_n 2, 1) := by decide +kernel
theorem dX4_withdraw_59 : decode cX4_withdraw 59 = .ok (.iconst (-1), 1) := by decide +kernel
theorem dX4_withdraw_60 : decode cX4_withdraw 60 = .ok (.iastore, 1) := by decide +kernel
theorem dX4_withdraw_61 : decode cX4_withdraw 61 = .ok (.return_, 1) := by decide +kernel
theorem dX4_isEntry_0 : decode cX4_isEntry 0 = .ok (.iload_n 1, 1) := by decide +kernel
theorem dX4_isEntry_1 : decode cX4_isEntry 1 = .ok (.ifCond .lt 15, 3) := by decide +kernel
theorem dX4_isEntry_4 : decode cX4_isEntry 4 = .ok (.iload_n 1, 1) := by decide +kernel
theorem dX4_isEntry_5 : decode cX4_isEntry 5 = .ok (.aload_n 0, 1) := by decide +kernel
theorem dX4_isEntry_6 : decode cX4_isEntry 6 = .ok (.getfield 104, 3) := by decide +kernel
theorem dX4_isEntry_9 : decode cX4_isEntry 9 = .ok (.if_icmp .ge 7, 3) := by decide +kernel
theorem dX4_isEntry_12 : decode cX4_isEntry 12 = .ok (.iconst 1, 1) := by decide +kernel
theorem dX4_isEntry_13 : decode cX4_isEntry 13 = .ok (.goto 4, 3) := by decide +kernel
theorem dX4_isEntry_16 : decode cX4_isEntry 16 = .ok (.iconst 0, 1) := by decide +kernel
theorem dX4_isEntry_17 : decode cX4_isEntry 17 = .ok (.ireturn, 1) := by decide +kernel
theorem dX4_reverse_0 : decode cX4_reverse 0 = .ok (.aload_n 0, 1) := by decide +kernel
theorem dX4_reverse_1 : decode cX4_reverse 1 = .ok (.iload_n 1, 1) := by decide +kernel
theorem dX4_reverse_2 : decode cX4_reverse 2 = .ok (.invokestatic 72, 3) := by decide +kernel
theorem dX4_reverse_5 : decode cX4_reverse 5 = .ok (.ifCond .eq 11, 3) := by decide +kernel
theorem dX4_reverse_8 : decode cX4_reverse 8 = .ok (.aload_n 0, 1) := by decide +kernel
theorem dX4_reverse_9 : decode cX4_reverse 9 = .ok (.iload_n 2, 1) := by decide +kernel
theorem dX4_reverse_10 : decode cX4_reverse 10 = .ok (.invokevirtual 143, 3) := by decide +kernel
theorem dX4_reverse_13 : decode cX4_reverse 13 = .ok (.ifCond .ne 7, 3) := by decide +kernel
theorem dX4_reverse_16 : decode cX4_reverse 16 = .ok (.iconst 1, 1) := by decide +kernel
theorem dX4_reverse_17 : decode cX4_reverse 17 = .ok (.goto 54, 3) := by decide +kernel
theorem dX4_reverse_20 : decode cX4_reverse 20 = .ok (.aload_n 0, 1) := by decide +kernel
theorem dX4_reverse_21 : decode cX4_reverse 21 = .ok (.iload_n 1, 1) := by decide +kernel
theorem dX4_reverse_22 : decode cX4_reverse 22 = .ok (.aload_n 0, 1) := by decide +kernel
theorem dX4_reverse_23 : decode cX4_reverse 23 = .ok (.getfield 33, 3) := by decide +kernel
theorem dX4_reverse_26 : decode cX4_reverse 26 = .ok (.iload_n 2, 1) := by decide +kernel
theorem dX4_reverse_27 : decode cX4_reverse 27 = .ok (.iaload, 1) := by decide +kernel
theorem dX4_reverse_28 : decode cX4_reverse 28 = .ok (.invokevirtual 93, 3) := by decide +kernel
theorem dX4_reverse_31 : decode cX4_reverse 31 = .ok (.ifCond .eq 13, 3) := by decide +kernel
theorem dX4_reverse_34 : decode cX4_reverse 34 = .ok (.aload_n 0, 1) := by decide +kernel
theorem dX4_reverse_35 : decode cX4_reverse 35 = .ok (.getfield 39, 3) := by decide +kernel
theorem dX4_reverse_38 : decode cX4_reverse 38 = .ok (.iload_n 2, 1) := by decide +kernel
theorem dX4_reverse_39 : decode cX4_reverse 39 = .ok (.iaload, 1) := by decide +kernel
theorem dX4_reverse_40 : decode cX4_reverse 40 = .ok (.iload_n 1, 1) := by decide +kernel
theorem dX4_reverse_41 : decode cX4_reverse 41 = .ok (.if_icmp .ne 7, 3) := by decide +kernel
theorem dX4_reverse_44 : decode cX4_reverse 44 = .ok (.iconst 2, 1) := by decide +kernel
theorem dX4_reverse_45 : decode cX4_reverse 45 = .ok (.goto 26, 3) := by decide +kernel
theorem dX4_reverse_48 : decode cX4_reverse 48 = .ok (.aload_n 0, 1) := by decide +kernel
theorem dX4_reverse_49 : decode cX4_reverse 49 = .ok (.getfield 45, 3) := by decide +kernel
theorem dX4_reverse_52 : decode cX4_reverse 52 = .ok (.iload_n 2, 1) := by decide +kernel
theorem dX4_reverse_53 : decode cX4_reverse 53 = .ok (.iaload, 1) := by decide +kernel
theorem dX4_reverse_54 : decode cX4_reverse 54 = .ok (.ifCond .ge 12, 3) := by decide +kernel
theorem dX4_reverse_57 : decode cX4_reverse 57 = .ok (.aload_n 0, 1) := by decide +kernel
theorem dX4_reverse_58 : decode cX4_reverse 58 = .ok (.getfield 48, 3) := by decide +kernel
theorem dX4_reverse_61 : decode cX4_reverse 61 = .ok (.iload_n 2, 1) := by decide +kernel
theorem dX4_reverse_62 : decode cX4_reverse 62 = .ok (.iaload, 1) := by decide +kernel
theorem dX4_reverse_63 : decode cX4_reverse 63 = .ok (.ifCond .lt 7, 3) := by decide +kernel
theorem dX4_reverse_66 : decode cX4_reverse 66 = .ok (.iconst 3, 1) := by decide +kernel
theorem dX4_reverse_67 : decode cX4_reverse 67 = .ok (.goto 4, 3) := by decide +kernel
theorem dX4_reverse_70 : decode cX4_reverse 70 = .ok (.iconst 0, 1) := by decide +kernel
theorem dX4_reverse_71 : decode cX4_reverse 71 = .ok (.putfield 65, 3) := by decide +kernel
theorem dX4_reverse_74 : decode cX4_reverse 74 = .ok (.aload_n 0, 1) := by decide +kernel
theorem dX4_reverse_75 : decode cX4_reverse 75 = .ok (.getfield 65, 3) := by decide +kernel
theorem dX4_reverse_78 : decode cX4_reverse 78 = .ok (.ifCond .le 5, 3) := by decide +kernel
theorem dX4_reverse_81 : decode cX4_reverse 81 = .ok (.iconst 0, 1) := by decide +kernel
theorem dX4_reverse_82 : decode cX4_reverse 82 = .ok (.ireturn, 1) := by decide +kernel
theorem dX4_reverse_83 : decode cX4_reverse 83 = .ok (.aload_n 0, 1) := by decide +kernel
theorem dX4_reverse_84 : decode cX4_reverse 84 = .ok (.aload_n 0, 1) := by decide +kernel
theorem dX4_reverse_85 : decode cX4_reverse 85 = .ok (.getfield 33, 3) := by decide +kernel
theorem dX4_reverse_88 : decode cX4_reverse 88 = .ok (.iload_n 2, 1) := by decide +kernel
theorem dX4_reverse_89 : decode cX4_reverse 89 = .ok (.iaload, 1) := by decide +kernel
theorem dX4_reverse_90 : decode cX4_reverse 90 = .ok (.aload_n 0, 1) := by decide +kernel
theorem dX4_reverse_91 : decode cX4_reverse 91 = .ok (.getfield 36, 3) := by decide +kernel
theorem dX4_reverse_94 : decode cX4_reverse 94 = .ok (.iload_n 2, 1) := by decide +kernel
theorem dX4_reverse_95 : decode cX4_reverse 95 = .ok (.laload, 1) := by decide +kernel
theorem dX4_reverse_96 : decode cX4_reverse 96 = .ok (.iload_n 1, 1) := by decide +kernel
theorem dX4_reverse_97 : decode cX4_reverse 97 = .ok (.iconst (-1), 1) := by decide +kernel
theorem dX4_reverse_98 : decode cX4_reverse 98 = .ok (.iload_n 2, 1) := by decide +kernel
theorem dX4_reverse_99 : decode cX4_reverse 99 = .ok (.invokevirtual 133, 3) := by decide +kernel
theorem dX4_reverse_102 : decode cX4_reverse 102 = .ok (.istore_n 3, 1) := by decide +kernel
theorem dX4_reverse_103 : decode cX4_reverse 103 = .ok (.aload_n 0, 1) := by decide +kernel
theorem dX4_reverse_104 : decode cX4_reverse 104 = .ok (.iload_n 3, 1) := by decide +kernel
theorem dX4_reverse_105 : decode cX4_reverse 105 = .ok (.ifCond .ge 7, 3) := by decide +kernel
theorem dX4_reverse_108 : decode cX4_reverse 108 = .ok (.iconst 3, 1) := by decide +kernel
theorem dX4_reverse_109 : decode cX4_reverse 109 = .ok (.goto 4, 3) := by decide +kernel
theorem dX4_reverse_112 : decode cX4_reverse 112 = .ok (.iconst 0, 1) := by decide +kernel
theorem dX4_reverse_113 : decode cX4_reverse 113 = .ok (.putfield 65, 3) := by decide +kernel
theorem dX4_reverse_116 : decode cX4_reverse 116 = .ok (.iload_n 3, 1) := by decide +kernel
theorem dX4_reverse_117 : decode cX4_reverse 117 = .ok (.ifCond .ge 7, 3) := by decide +kernel
theorem dX4_reverse_120 : decode cX4_reverse 120 = .ok (.iconst 0, 1) := by decide +kernel
theorem dX4_reverse_121 : decode cX4_reverse 121 = .ok (.goto 4, 3) := by decide +kernel
theorem dX4_reverse_124 : decode cX4_reverse 124 = .ok (.iload_n 3, 1) := by decide +kernel
theorem dX4_reverse_125 : decode cX4_reverse 125 = .ok (.ireturn, 1) := by decide +kernel
theorem dX4_tamper_0 : decode cX4_tamper 0 = .ok (.aload_n 0, 1) := by decide +kernel
theorem dX4_tamper_1 : decode cX4_tamper 1 = .ok (.iload_n 1, 1) := by decide +kernel
theorem dX4_tamper_2 : decode cX4_tamper 2 = .ok (.invokestatic 72, 3) := by decide +kernel
theorem dX4_tamper_5 : decode cX4_tamper 5 = .ok (.ifCond .ne 7, 3) := by decide +kernel
theorem dX4_tamper_8 : decode cX4_tamper 8 = .ok (.iconst 1, 1) := by decide +kernel
theorem dX4_tamper_9 : decode cX4_tamper 9 = .ok (.goto 24, 3) := by decide +kernel
theorem dX4_tamper_12 : decode cX4_tamper 12 = .ok (.lload_n 2, 1) := by decide +kernel
theorem dX4_tamper_13 : decode cX4_tamper 13 = .ok (.ldc2_w 146, 3) := by decide +kernel
theorem dX4_tamper_16 : decode cX4_tamper 16 = .ok (.lcmp, 1) := by decide +kernel
theorem dX4_tamper_17 : decode cX4_tamper 17 = .ok (.ifCond .lt 11, 3) := by decide +kernel
theorem dX4_tamper_20 : decode cX4_tamper 20 = .ok (.lload_n 2, 1) := by decide +kernel
theorem dX4_tamper_21 : decode cX4_tamper 21 = .ok (.ldc2_w 148, 3) := by decide +kernel
theorem dX4_tamper_24 : decode cX4_tamper 24 = .ok (.lcmp, 1) := by decide +kernel
theorem dX4_tamper_25 : decode cX4_tamper 25 = .ok (.ifCond .le 7, 3) := by decide +kernel
theorem dX4_tamper_28 : decode cX4_tamper 28 = .ok (.iconst 2, 1) := by decide +kernel
theorem dX4_tamper_29 : decode cX4_tamper 29 = .ok (.goto 4, 3) := by decide +kernel
theorem dX4_tamper_32 : decode cX4_tamper 32 = .ok (.iconst 0, 1) := by decide +kernel
theorem dX4_tamper_33 : decode cX4_tamper 33 = .ok (.putfield 65, 3) := by decide +kernel
theorem dX4_tamper_36 : decode cX4_tamper 36 = .ok (.aload_n 0, 1) := by decide +kernel
theorem dX4_tamper_37 : decode cX4_tamper 37 = .ok (.getfield 65, 3) := by decide +kernel
theorem dX4_tamper_40 : decode cX4_tamper 40 = .ok (.ifCond .ne 38, 3) := by decide +kernel
theorem dX4_tamper_43 : decode cX4_tamper 43 = .ok (.aload_n 0, 1) := by decide +kernel
theorem dX4_tamper_44 : decode cX4_tamper 44 = .ok (.getfield 7, 3) := by decide +kernel
theorem dX4_tamper_47 : decode cX4_tamper 47 = .ok (.iload_n 1, 1) := by decide +kernel
theorem dX4_tamper_48 : decode cX4_tamper 48 = .ok (.laload, 1) := by decide +kernel
theorem dX4_tamper_49 : decode cX4_tamper 49 = .ok (.lload_n 2, 1) := by decide +kernel
theorem dX4_tamper_50 : decode cX4_tamper 50 = .ok (.ladd, 1) := by decide +kernel
theorem dX4_tamper_51 : decode cX4_tamper 51 = .ok (.ldc2_w 96, 3) := by decide +kernel
theorem dX4_tamper_54 : decode cX4_tamper 54 = .ok (.lcmp, 1) := by decide +kernel
theorem dX4_tamper_55 : decode cX4_tamper 55 = .ok (.ifCond .gt 18, 3) := by decide +kernel
theorem dX4_tamper_58 : decode cX4_tamper 58 = .ok (.aload_n 0, 1) := by decide +kernel
theorem dX4_tamper_59 : decode cX4_tamper 59 = .ok (.getfield 7, 3) := by decide +kernel
theorem dX4_tamper_62 : decode cX4_tamper 62 = .ok (.iload_n 1, 1) := by decide +kernel
theorem dX4_tamper_63 : decode cX4_tamper 63 = .ok (.laload, 1) := by decide +kernel
theorem dX4_tamper_64 : decode cX4_tamper 64 = .ok (.lload_n 2, 1) := by decide +kernel
theorem dX4_tamper_65 : decode cX4_tamper 65 = .ok (.ladd, 1) := by decide +kernel
theorem dX4_tamper_66 : decode cX4_tamper 66 = .ok (.ldc2_w 63, 3) := by decide +kernel
theorem dX4_tamper_69 : decode cX4_tamper 69 = .ok (.lcmp, 1) := by decide +kernel
theorem dX4_tamper_70 : decode cX4_tamper 70 = .ok (.ifCond .ge 8, 3) := by decide +kernel
theorem dX4_tamper_73 : decode cX4_tamper 73 = .ok (.aload_n 0, 1) := by decide +kernel
theorem dX4_tamper_74 : decode cX4_tamper 74 = .ok (.iconst 3, 1) := by decide +kernel
theorem dX4_tamper_75 : decode cX4_tamper 75 = .ok (.putfield 65, 3) := by decide +kernel
theorem dX4_tamper_78 : decode cX4_tamper 78 = .ok (.aload_n 0, 1) := by decide +kernel
theorem dX4_tamper_79 : decode cX4_tamper 79 = .ok (.getfield 65, 3) := by decide +kernel
theorem dX4_tamper_82 : decode cX4_tamper 82 = .ok (.ifCond .le 5, 3) := by decide +kernel
theorem dX4_tamper_85 : decode cX4_tamper 85 = .ok (.lconst 0, 1) := by decide +kernel
theorem dX4_tamper_86 : decode cX4_tamper 86 = .ok (.lreturn, 1) := by decide +kernel
theorem dX4_tamper_87 : decode cX4_tamper 87 = .ok (.aload_n 0, 1) := by decide +kernel
theorem dX4_tamper_88 : decode cX4_tamper 88 = .ok (.getfield 7, 3) := by decide +kernel
theorem dX4_tamper_91 : decode cX4_tamper 91 = .ok (.iload_n 1, 1) := by decide +kernel
theorem dX4_tamper_92 : decode cX4_tamper 92 = .ok (.aload_n 0, 1) := by decide +kernel
theorem dX4_tamper_93 : decode cX4_tamper 93 = .ok (.getfield 7, 3) := by decide +kernel
theorem dX4_tamper_96 : decode cX4_tamper 96 = .ok (.iload_n 1, 1) := by decide +kernel
theorem dX4_tamper_97 : decode cX4_tamper 97 = .ok (.laload, 1) := by decide +kernel
theorem dX4_tamper_98 : decode cX4_tamper 98 = .ok (.lload_n 2, 1) := by decide +kernel
theorem dX4_tamper_99 : decode cX4_tamper 99 = .ok (.ladd, 1) := by decide +kernel
theorem dX4_tamper_100 : decode cX4_tamper 100 = .ok (.lastore, 1) := by decide +kernel
theorem dX4_tamper_101 : decode cX4_tamper 101 = .ok (.aload_n 0, 1) := by decide +kernel
theorem dX4_tamper_102 : decode cX4_tamper 102 = .ok (.getfield 7, 3) := by decide +kernel
theorem dX4_tamper_105 : decode cX4_tamper 105 = .ok (.iload_n 1, 1) := by decide +kernel
theorem dX4_tamper_106 : decode cX4_tamper 106 = .ok (.laload, 1) := by decide +kernel
theorem dX4_tamper_107 : decode cX4_tamper 107 = .ok (.lreturn, 1) := by decide +kernel
theorem dX4_restore_0 : decode cX4_restore 0 = .ok (.aload_n 0, 1) := by decide +kernel
theorem dX4_restore_1 : decode cX4_restore 1 = .ok (.iload_n 1, 1) := by decide +kernel
theorem dX4_restore_2 : decode cX4_restore 2 = .ok (.invokestatic 72, 3) := by decide +kernel
theorem dX4_restore_5 : decode cX4_restore 5 = .ok (.ifCond .ne 7, 3) := by decide +kernel
theorem dX4_restore_8 : decode cX4_restore 8 = .ok (.iconst 1, 1) := by decide +kernel
theorem dX4_restore_9 : decode cX4_restore 9 = .ok (.goto 15, 3) := by decide +kernel
theorem dX4_restore_12 : decode cX4_restore 12 = .ok (.iload_n 1, 1) := by decide +kernel
theorem dX4_restore_13 : decode cX4_restore 13 = .ok (.invokestatic 86, 3) := by decide +kernel
theorem dX4_restore_16 : decode cX4_restore 16 = .ok (.ifCond .ne 7, 3) := by decide +kernel
theorem dX4_restore_19 : decode cX4_restore 19 = .ok (.iconst 2, 1) := by decide +kernel
theorem dX4_restore_20 : decode cX4_restore 20 = .ok (.goto 4, 3) := by decide +kernel
theorem dX4_restore_23 : decode cX4_restore 23 = .ok (.iconst 0, 1) := by decide +kernel
theorem dX4_restore_24 : decode cX4_restore 24 = .ok (.putfield 65, 3) := by decide +kernel
theorem dX4_restore_27 : decode cX4_restore 27 = .ok (.aload_n 0, 1) := by decide +kernel
theorem dX4_restore_28 : decode cX4_restore 28 = .ok (.getfield 65, 3) := by decide +kernel
theorem dX4_restore_31 : decode cX4_restore 31 = .ok (.ifCond .le 5, 3) := by decide +kernel
theorem dX4_restore_34 : decode cX4_restore 34 = .ok (.iconst 0, 1) := by decide +kernel
theorem dX4_restore_35 : decode cX4_restore 35 = .ok (.ireturn, 1) := by decide +kernel
theorem dX4_restore_36 : decode cX4_restore 36 = .ok (.iconst 0, 1) := by decide +kernel
theorem dX4_restore_37 : decode cX4_restore 37 = .ok (.istore_n 2, 1) := by decide +kernel
theorem dX4_restore_38 : decode cX4_restore 38 = .ok (.iconst 0, 1) := by decide +kernel
theorem dX4_restore_39 : decode cX4_restore 39 = .ok (.istore_n 3, 1) := by decide +kernel
theorem dX4_restore_40 : decode cX4_restore 40 = .ok (.iload_n 3, 1) := by decide +kernel
theorem dX4_restore_41 : decode cX4_restore 41 = .ok (.bipush 8, 2) := by decide +kernel
theorem dX4_restore_43 : decode cX4_restore 43 = .ok (.if_icmp .ge 48, 3) := by decide +kernel
theorem dX4_restore_46 : decode cX4_restore 46 = .ok (.aload_n 0, 1) := by decide +kernel
theorem dX4_restore_47 : decode cX4_restore 47 = .ok (.iload_n 3, 1) := by decide +kernel
theorem dX4_restore_48 : decode cX4_restore 48 = .ok (.aload_n 0, 1) := by decide +kernel
theorem dX4_restore_49 : decode cX4_restore 49 = .ok (.getfield 104, 3) := by decide +kernel
theorem dX4_restore_52 : decode cX4_restore 52 = .ok (.invokevirtual 107, 3) := by decide +kernel
theorem dX4_restore_55 : decode cX4_restore 55 = .ok (.lstore 4, 2) := by decide +kernel
theorem dX4_restore_57 : decode cX4_restore 57 = .ok (.aload_n 0, 1) := by decide +kernel
theorem dX4_restore_58 : decode cX4_restore 58 = .ok (.getfield 7, 3) := by decide +kernel
theorem dX4_restore_61 : decode cX4_restore 61 = .ok (.iload_n 3, 1) := by decide +kernel
theorem dX4_restore_62 : decode cX4_restore 62 = .ok (.laload, 1) := by decide +kernel
theorem dX4_restore_63 : decode cX4_restore 63 = .ok (.lload 4, 2) := by decide +kernel
theorem dX4_restore_65 : decode cX4_restore 65 = .ok (.lcmp, 1) := by decide +kernel
theorem dX4_restore_66 : decode cX4_restore 66 = .ok (.ifCond .eq 9, 3) := by decide +kernel
theorem dX4_restore_69 : decode cX4_restore 69 = .ok (.iload_n 2, 1) := by decide +kernel
theorem dX4_restore_70 : decode cX4_restore 70 = .ok (.iconst 1, 1) := by decide +kernel
theorem dX4_restore_71 : decode cX4_restore 71 = .ok (.iadd, 1) := by decide +kernel
theorem dX4_restore_72 : decode cX4_restore 72 = .ok (.goto 4, 3) := by decide +kernel
theorem dX4_restore_75 : decode cX4_restore 75 = .ok (.iload_n 2, 1) := by decide +kernel
theorem dX4_restore_76 : decode cX4_restore 76 = .ok (.istore_n 2, 1) := by decide +kernel
theorem dX4_restore_77 : decode cX4_restore 77 = .ok (.aload_n 0, 1) := by decide +kernel
theorem dX4_restore_78 : decode cX4_restore 78 = .ok (.getfield 7, 3) := by decide +kernel
theorem dX4_restore_81 : decode cX4_restore 81 = .ok (.iload_n 3, 1) := by decide +kernel
theorem dX4_restore_82 : decode cX4_restore 82 = .ok (.lload 4, 2) := by decide +kernel
theorem dX4_restore_84 : decode cX4_restore 84 = .ok (.lastore, 1) := by decide +kernel
theorem dX4_restore_85 : decode cX4_restore 85 = .ok (.iinc 3 1, 3) := by decide +kernel
theorem dX4_restore_88 : decode cX4_restore 88 = .ok (.goto (-48), 3) := by decide +kernel
theorem dX4_restore_91 : decode cX4_restore 91 = .ok (.iload_n 2, 1) := by decide +kernel
theorem dX4_restore_92 : decode cX4_restore 92 = .ok (.ireturn, 1) := by decide +kernel
theorem dX4_balance_0 : decode cX4_balance 0 = .ok (.aload_n 0, 1) := by decide +kernel
theorem dX4_balance_1 : decode cX4_balance 1 = .ok (.iload_n 1, 1) := by decide +kernel
theorem dX4_balance_2 : decode cX4_balance 2 = .ok (.invokestatic 72, 3) := by decide +kernel
theorem dX4_balance_5 : decode cX4_balance 5 = .ok (.ifCond .eq 7, 3) := by decide +kernel
theorem dX4_balance_8 : decode cX4_balance 8 = .ok (.iconst 0, 1) := by decide +kernel
theorem dX4_balance_9 : decode cX4_balance 9 = .ok (.goto 4, 3) := by decide +kernel
theorem dX4_balance_12 : decode cX4_balance 12 = .ok (.iconst 1, 1) := by decide +kernel
theorem dX4_balance_13 : decode cX4_balance 13 = .ok (.putfield 65, 3) := by decide +kernel
theorem dX4_balance_16 : decode cX4_balance 16 = .ok (.aload_n 0, 1) := by decide +kernel
theorem dX4_balance_17 : decode cX4_balance 17 = .ok (.getfield 65, 3) := by decide +kernel
theorem dX4_balance_20 : decode cX4_balance 20 = .ok (.ifCond .le 7, 3) := by decide +kernel
theorem dX4_balance_23 : decode cX4_balance 23 = .ok (.lconst 0, 1) := by decide +kernel
theorem dX4_balance_24 : decode cX4_balance 24 = .ok (.goto 9, 3) := by decide +kernel
theorem dX4_balance_27 : decode cX4_balance 27 = .ok (.aload_n 0, 1) := by decide +kernel
theorem dX4_balance_28 : decode cX4_balance 28 = .ok (.getfield 7, 3) := by decide +kernel
theorem dX4_balance_31 : decode cX4_balance 31 = .ok (.iload_n 1, 1) := by decide +kernel
theorem dX4_balance_32 : decode cX4_balance 32 = .ok (.laload, 1) := by decide +kernel
theorem dX4_balance_33 : decode cX4_balance 33 = .ok (.lreturn, 1) := by decide +kernel
theorem dX4_balanceAt_0 : decode cX4_balanceAt 0 = .ok (.aload_n 0, 1) := by decide +kernel
theorem dX4_balanceAt_1 : decode cX4_balanceAt 1 = .ok (.iload_n 1, 1) := by decide +kernel
theorem dX4_balanceAt_2 : decode cX4_balanceAt 2 = .ok (.invokestatic 72, 3) := by decide +kernel
theorem dX4_balanceAt_5 : decode cX4_balanceAt 5 = .ok (.ifCond .eq 19, 3) := by decide +kernel
theorem dX4_balanceAt_8 : decode cX4_balanceAt 8 = .ok (.iload_n 2, 1) := by decide +kernel
theorem dX4_balanceAt_9 : decode cX4_balanceAt 9 = .ok (.ifCond .lt 15, 3) := by decide +kernel
theorem dX4_balanceAt_12 : decode cX4_balanceAt 12 = .ok (.iload_n 2, 1) := by decide +kernel
theorem dX4_balanceAt_13 : decode cX4_balanceAt 13 = .ok (.aload_n 0, 1) := by decide +kernel
theorem dX4_balanceAt_14 : decode cX4_balanceAt 14 = .ok (.getfield 104, 3) := by decide +kernel
theorem dX4_balanceAt_17 : decode cX4_balanceAt 17 = .ok (.if_icmp .gt 7, 3) := by decide +kernel
theorem dX4_balanceAt_20 : decode cX4_balanceAt 20 = .ok (.iconst 0, 1) := by decide +kernel
theorem dX4_balanceAt_21 : decode cX4_balanceAt 21 = .ok (.goto 4, 3) := by decide +kernel
theorem dX4_balanceAt_24 : decode cX4_balanceAt 24 = .ok (.iconst 1, 1) := by decide +kernel
theorem dX4_balanceAt_25 : decode cX4_balanceAt 25 = .ok (.putfield 65, 3) := by decide +kernel
theorem dX4_balanceAt_28 : decode cX4_balanceAt 28 = .ok (.aload_n 0, 1) := by decide +kernel
theorem dX4_balanceAt_29 : decode cX4_balanceAt 29 = .ok (.getfield 65, 3) := by decide +kernel
theorem dX4_balanceAt_32 : decode cX4_balanceAt 32 = .ok (.ifCond .le 7, 3) := by decide +kernel
theorem dX4_balanceAt_35 : decode cX4_balanceAt 35 = .ok (.lconst 0, 1) := by decide +kernel
theorem dX4_balanceAt_36 : decode cX4_balanceAt 36 = .ok (.goto 9, 3) := by decide +kernel
theorem dX4_balanceAt_39 : decode cX4_balanceAt 39 = .ok (.aload_n 0, 1) := by decide +kernel
theorem dX4_balanceAt_40 : decode cX4_balanceAt 40 = .ok (.iload_n 1, 1) := by decide +kernel
theorem dX4_balanceAt_41 : decode cX4_balanceAt 41 = .ok (.iload_n 2, 1) := by decide +kernel
theorem dX4_balanceAt_42 : decode cX4_balanceAt 42 = .ok (.invokevirtual 107, 3) := by decide +kernel
theorem dX4_balanceAt_45 : decode cX4_balanceAt 45 = .ok (.lreturn, 1) := by decide +kernel
theorem dX4_entries_0 : decode cX4_entries 0 = .ok (.aload_n 0, 1) := by decide +kernel
theorem dX4_entries_1 : decode cX4_entries 1 = .ok (.iconst 0, 1) := by decide +kernel
theorem dX4_entries_2 : decode cX4_entries 2 = .ok (.putfield 65, 3) := by decide +kernel
theorem dX4_entries_5 : decode cX4_entries 5 = .ok (.aload_n 0, 1) := by decide +kernel
theorem dX4_entries_6 : decode cX4_entries 6 = .ok (.getfield 104, 3) := by decide +kernel
theorem dX4_entries_9 : decode cX4_entries 9 = .ok (.ireturn, 1) := by decide +kernel
theorem dX4_entry_0 : decode cX4_entry 0 = .ok (.aload_n 0, 1) := by decide +kernel
theorem dX4_entry_1 : decode cX4_entry 1 = .ok (.aload_n 0, 1) := by decide +kernel
theorem dX4_entry_2 : decode cX4_entry 2 = .ok (.iload_n 1, 1) := by decide +kernel
theorem dX4_entry_3 : decode cX4_entry 3 = .ok (.invokevirtual 143, 3) := by decide +kernel
theorem dX4_entry_6 : decode cX4_entry 6 = .ok (.ifCond .eq 16, 3) := by decide +kernel
theorem dX4_entry_9 : decode cX4_entry 9 = .ok (.iload_n 2, 1) := by decide +kernel
theorem dX4_entry_10 : decode cX4_entry 10 = .ok (.ifCond .lt 12, 3) := by decide +kernel
theorem dX4_entry_13 : decode cX4_entry 13 = .ok (.iload_n 2, 1) := by decide +kernel
theorem dX4_entry_14 : decode cX4_entry 14 = .ok (.iconst 4, 1) := by decide +kernel
theorem dX4_entry_15 : decode cX4_entry 15 = .ok (.if_icmp .gt 7, 3) := by decide +kernel
theorem dX4_entry_18 : decode cX4_entry 18 = .ok (.iconst 0, 1) := by decide +kernel
theorem dX4_entry_19 : decode cX4_entry 19 = .ok (.goto 4, 3) := by decide +kernel
theorem dX4_entry_22 : decode cX4_entry 22 = .ok (.iconst 1, 1) := by decide +kernel
theorem dX4_entry_23 : decode cX4_entry 23 = .ok (.putfield 65, 3) := by decide +kernel
theorem dX4_entry_26 : decode cX4_entry 26 = .ok (.aload_n 0, 1) := by decide +kernel
theorem dX4_entry_27 : decode cX4_entry 27 = .ok (.getfield 65, 3) := by decide +kernel
theorem dX4_entry_30 : decode cX4_entry 30 = .ok (.ifCond .le 5, 3) := by decide +kernel
theorem dX4_entry_33 : decode cX4_entry 33 = .ok (.iconst 0, 1) := by decide +kernel
theorem dX4_entry_34 : decode cX4_entry 34 = .ok (.ireturn, 1) := by decide +kernel
theorem dX4_entry_35 : decode cX4_entry 35 = .ok (.iload_n 2, 1) := by decide +kernel
theorem dX4_entry_36 : decode cX4_entry 36 = .ok (.ifCond .ne 12, 3) := by decide +kernel
theorem dX4_entry_39 : decode cX4_entry 39 = .ok (.aload_n 0, 1) := by decide +kernel
theorem dX4_entry_40 : decode cX4_entry 40 = .ok (.getfield 33, 3) := by decide +kernel
theorem dX4_entry_43 : decode cX4_entry 43 = .ok (.iload_n 1, 1) := by decide +kernel
theorem dX4_entry_44 : decode cX4_entry 44 = .ok (.iaload, 1) := by decide +kernel
theorem dX4_entry_45 : decode cX4_entry 45 = .ok (.goto 51, 3) := by decide +kernel
theorem dX4_entry_48 : decode cX4_entry 48 = .ok (.iload_n 2, 1) := by decide +kernel
theorem dX4_entry_49 : decode cX4_entry 49 = .ok (.iconst 1, 1) := by decide +kernel
theorem dX4_entry_50 : decode cX4_entry 50 = .ok (.if_icmp .ne 12, 3) := by decide +kernel
theorem dX4_entry_53 : decode cX4_entry 53 = .ok (.aload_n 0, 1) := by decide +kernel
theorem dX4_entry_54 : decode cX4_entry 54 = .ok (.getfield 39, 3) := by decide +kernel
theorem dX4_entry_57 : decode cX4_entry 57 = .ok (.iload_n 1, 1) := by decide +kernel
theorem dX4_entry_58 : decode cX4_entry 58 = .ok (.iaload, 1) := by decide +kernel
theorem dX4_entry_59 : decode cX4_entry 59 = .ok (.goto 37, 3) := by decide +kernel
theorem dX4_entry_62 : decode cX4_entry 62 = .ok (.iload_n 2, 1) := by decide +kernel
theorem dX4_entry_63 : decode cX4_entry 63 = .ok (.iconst 2, 1) := by decide +kernel
theorem dX4_entry_64 : decode cX4_entry 64 = .ok (.if_icmp .ne 12, 3) := by decide +kernel
theorem dX4_entry_67 : decode cX4_entry 67 = .ok (.aload_n 0, 1) := by decide +kernel
theorem dX4_entry_68 : decode cX4_entry 68 = .ok (.getfield 42, 3) := by decide +kernel
theorem dX4_entry_71 : decode cX4_entry 71 = .ok (.iload_n 1, 1) := by decide +kernel
theorem dX4_entry_72 : decode cX4_entry 72 = .ok (.iaload, 1) := by decide +kernel
theorem dX4_entry_73 : decode cX4_entry 73 = .ok (.goto 23, 3) := by decide +kernel
theorem dX4_entry_76 : decode cX4_entry 76 = .ok (.iload_n 2, 1) := by decide +kernel
theorem dX4_entry_77 : decode cX4_entry 77 = .ok (.iconst 3, 1) := by decide +kernel
theorem dX4_entry_78 : decode cX4_entry 78 = .ok (.if_icmp .ne 12, 3) := by decide +kernel
theorem dX4_entry_81 : decode cX4_entry 81 = .ok (.aload_n 0, 1) := by decide +kernel
theorem dX4_entry_82 : decode cX4_entry 82 = .ok (.getfield 45, 3) := by decide +kernel
theorem dX4_entry_85 : decode cX4_entry 85 = .ok (.iload_n 1, 1) := by decide +kernel
theorem dX4_entry_86 : decode cX4_entry 86 = .ok (.iaload, 1) := by decide +kernel
theorem dX4_entry_87 : decode cX4_entry 87 = .ok (.goto 9, 3) := by decide +kernel
theorem dX4_entry_90 : decode cX4_entry 90 = .ok (.aload_n 0, 1) := by decide +kernel
theorem dX4_entry_91 : decode cX4_entry 91 = .ok (.getfield 48, 3) := by decide +kernel
theorem dX4_entry_94 : decode cX4_entry 94 = .ok (.iload_n 1, 1) := by decide +kernel
theorem dX4_entry_95 : decode cX4_entry 95 = .ok (.iaload, 1) := by decide +kernel
theorem dX4_entry_96 : decode cX4_entry 96 = .ok (.ireturn, 1) := by decide +kernel
theorem dX4_amount_0 : decode cX4_amount 0 = .ok (.aload_n 0, 1) := by decide +kernel
theorem dX4_amount_1 : decode cX4_amount 1 = .ok (.aload_n 0, 1) := by decide +kernel
theorem dX4_amount_2 : decode cX4_amount 2 = .ok (.iload_n 1, 1) := by decide +kernel
theorem dX4_amount_3 : decode cX4_amount 3 = .ok (.invokevirtual 143, 3) := by decide +kernel
theorem dX4_amount_6 : decode cX4_amount 6 = .ok (.ifCond .eq 7, 3) := by decide +kernel
theorem dX4_amount_9 : decode cX4_amount 9 = .ok (.iconst 0, 1) := by decide +kernel
theorem dX4_amount_10 : decode cX4_amount 10 = .ok (.goto 4, 3) := by decide +kernel
theorem dX4_amount_13 : decode cX4_amount 13 = .ok (.iconst 1, 1) := by decide +kernel
theorem dX4_amount_14 : decode cX4_amount 14 = .ok (.putfield 65, 3) := by decide +kernel
theorem dX4_amount_17 : decode cX4_amount 17 = .ok (.aload_n 0, 1) := by decide +kernel
theorem dX4_amount_18 : decode cX4_amount 18 = .ok (.getfield 65, 3) := by decide +kernel
theorem dX4_amount_21 : decode cX4_amount 21 = .ok (.ifCond .le 7, 3) := by decide +kernel
theorem dX4_amount_24 : decode cX4_amount 24 = .ok (.lconst 0, 1) := by decide +kernel
theorem dX4_amount_25 : decode cX4_amount 25 = .ok (.goto 9, 3) := by decide +kernel
theorem dX4_amount_28 : decode cX4_amount 28 = .ok (.aload_n 0, 1) := by decide +kernel
theorem dX4_amount_29 : decode cX4_amount 29 = .ok (.getfield 36, 3) := by decide +kernel
theorem dX4_amount_32 : decode cX4_amount 32 = .ok (.iload_n 1, 1) := by decide +kernel
theorem dX4_amount_33 : decode cX4_amount 33 = .ok (.laload, 1) := by decide +kernel
theorem dX4_amount_34 : decode cX4_amount 34 = .ok (.lreturn, 1) := by decide +kernel
theorem dX4_requested_0 : decode cX4_requested 0 = .ok (.aload_n 0, 1) := by decide +kernel
theorem dX4_requested_1 : decode cX4_requested 1 = .ok (.iload_n 1, 1) := by decide +kernel
theorem dX4_requested_2 : decode cX4_requested 2 = .ok (.ifCond .lt 13, 3) := by decide +kernel
theorem dX4_requested_5 : decode cX4_requested 5 = .ok (.iload_n 1, 1) := by decide +kernel
theorem dX4_requested_6 : decode cX4_requested 6 = .ok (.bipush 6, 2) := by decide +kernel
theorem dX4_requested_8 : decode cX4_requested 8 = .ok (.if_icmp .ge 7, 3) := by decide +kernel
theorem dX4_requested_11 : decode cX4_requested 11 = .ok (.iconst 0, 1) := by decide +kernel
theorem dX4_requested_12 : decode cX4_requested 12 = .ok (.goto 4, 3) := by decide +kernel
theorem dX4_requested_15 : decode cX4_requested 15 = .ok (.iconst 1, 1) := by decide +kernel
theorem dX4_requested_16 : decode cX4_requested 16 = .ok (.putfield 65, 3) := by decide +kernel
theorem dX4_requested_19 : decode cX4_requested 19 = .ok (.aload_n 0, 1) := by decide +kernel
theorem dX4_requested_20 : decode cX4_requested 20 = .ok (.getfield 65, 3) := by decide +kernel
theorem dX4_requested_23 : decode cX4_requested 23 = .ok (.ifCond .le 7, 3) := by decide +kernel
theorem dX4_requested_26 : decode cX4_requested 26 = .ok (.iconst 0, 1) := by decide +kernel
theorem dX4_requested_27 : decode cX4_requested 27 = .ok (.goto 9, 3) := by decide +kernel
theorem dX4_requested_30 : decode cX4_requested 30 = .ok (.aload_n 0, 1) := by decide +kernel
theorem dX4_requested_31 : decode cX4_requested 31 = .ok (.getfield 51, 3) := by decide +kernel
theorem dX4_requested_34 : decode cX4_requested 34 = .ok (.iload_n 1, 1) := by decide +kernel
theorem dX4_requested_35 : decode cX4_requested 35 = .ok (.iaload, 1) := by decide +kernel
theorem dX4_requested_36 : decode cX4_requested 36 = .ok (.ireturn, 1) := by decide +kernel
end
section
theorem dL_draw_0 : decode cL_draw 0 = .ok (.aload_n 3, 1) := by decide +kernel
theorem dL_draw_1 : decode cL_draw 1 = .ok (.iconst 0, 1) := by decide +kernel
theorem dL_draw_2 : decode cL_draw 2 = .ok (.aload_n 0, 1) := by decide +kernel
theorem dL_draw_3 : decode cL_draw 3 = .ok (.iload_n 1, 1) := by decide +kernel
theorem dL_draw_4 : decode cL_draw 4 = .ok (.iload_n 2, 1) := by decide +kernel
theorem dL_draw_5 : decode cL_draw 5 = .ok (.invokevirtual 7, 3) := by decide +kernel
theorem dL_draw_8 : decode cL_draw 8 = .ok (.i2l, 1) := by decide +kernel
theorem dL_draw_9 : decode cL_draw 9 = .ok (.lastore, 1) := by decide +kernel
theorem dL_draw_10 : decode cL_draw 10 = .ok (.goto 15, 3) := by decide +kernel
theorem dL_draw_13 : decode cL_draw 13 = .ok (.astore 4, 2) := by decide +kernel
theorem dL_draw_15 : decode cL_draw 15 = .ok (.iconst 1, 1) := by decide +kernel
theorem dL_draw_16 : decode cL_draw 16 = .ok (.ireturn, 1) := by decide +kernel
theorem dL_draw_17 : decode cL_draw 17 = .ok (.astore 4, 2) := by decide +kernel
theorem dL_draw_19 : decode cL_draw 19 = .ok (.iconst 2, 1) := by decide +kernel
theorem dL_draw_20 : decode cL_draw 20 = .ok (.ireturn, 1) := by decide +kernel
theorem dL_draw_21 : decode cL_draw 21 = .ok (.astore 4, 2) := by decide +kernel
theorem dL_draw_23 : decode cL_draw 23 = .ok (.iconst 3, 1) := by decide +kernel
theorem dL_draw_24 : decode cL_draw 24 = .ok (.ireturn, 1) := by decide +kernel
theorem dL_draw_25 : decode cL_draw 25 = .ok (.iconst 0, 1) := by decide +kernel
theorem dL_draw_26 : decode cL_draw 26 = .ok (.ireturn, 1) := by decide +kernel
theorem dL_add_0 : decode cL_add 0 = .ok (.aload 4, 2) := by decide +kernel
theorem dL_add_2 : decode cL_add 2 = .ok (.iconst 0, 1) := by decide +kernel
theorem dL_add_3 : decode cL_add 3 = .ok (.aload_n 0, 1) := by decide +kernel
theorem dL_add_4 : decode cL_add 4 = .ok (.iload_n 1, 1) := by decide +kernel
theorem dL_add_5 : decode cL_add 5 = .ok (.iload_n 2, 1) := by decide +kernel
theorem dL_add_6 : decode cL_add 6 = .ok (.iload_n 3, 1) := by decide +kernel
theorem dL_add_7 : decode cL_add 7 = .ok (.invokevirtual 19, 3) := by decide +kernel
theorem dL_add_10 : decode cL_add 10 = .ok (.i2l, 1) := by decide +kernel
theorem dL_add_11 : decode cL_add 11 = .ok (.lastore, 1) := by decide +kernel
theorem dL_add_12 : decode cL_add 12 = .ok (.goto 15, 3) := by decide +kernel
theorem dL_add_15 : decode cL_add 15 = .ok (.astore 5, 2) := by decide +kernel
theorem dL_add_17 : decode cL_add 17 = .ok (.iconst 1, 1) := by decide +kernel
theorem dL_add_18 : decode cL_add 18 = .ok (.ireturn, 1) := by decide +kernel
theorem dL_add_19 : decode cL_add 19 = .ok (.astore 5, 2) := by decide +kernel
theorem dL_add_21 : decode cL_add 21 = .ok (.iconst 2, 1) := by decide +kernel
theorem dL_add_22 : decode cL_add 22 = .ok (.ireturn, 1) := by decide +kernel
theorem dL_add_23 : decode cL_add 23 = .ok (.astore 5, 2) := by decide +kernel
theorem dL_add_25 : decode cL_add 25 = .ok (.iconst 3, 1) := by decide +kernel
theorem dL_add_26 : decode cL_add 26 = .ok (.ireturn, 1) := by decide +kernel
theorem dL_add_27 : decode cL_add 27 = .ok (.iconst 0, 1) := by decide +kernel
theorem dL_add_28 : decode cL_add 28 = .ok (.ireturn, 1) := by decide +kernel
theorem dL_certify_0 : decode cL_certify 0 = .ok (.aload_n 0, 1) := by decide +kernel
theorem dL_certify_1 : decode cL_certify 1 = .ok (.iload_n 1, 1) := by decide +kernel
theorem dL_certify_2 : decode cL_certify 2 = .ok (.iload_n 2, 1) := by decide +kernel
theorem dL_certify_3 : decode cL_certify 3 = .ok (.invokevirtual 23, 3) := by decide +kernel
theorem dL_certify_6 : decode cL_certify 6 = .ok (.goto 12, 3) := by decide +kernel
theorem dL_certify_9 : decode cL_certify 9 = .ok (.astore_n 3, 1) := by decide +kernel
theorem dL_certify_10 : decode cL_certify 10 = .ok (.iconst 1, 1) := by decide +kernel
theorem dL_certify_11 : decode cL_certify 11 = .ok (.ireturn, 1) := by decide +kernel
theorem dL_certify_12 : decode cL_certify 12 = .ok (.astore_n 3, 1) := by decide +kernel
theorem dL_certify_13 : decode cL_certify 13 = .ok (.iconst 2, 1) := by decide +kernel
theorem dL_certify_14 : decode cL_certify 14 = .ok (.ireturn, 1) := by decide +kernel
theorem dL_certify_15 : decode cL_certify 15 = .ok (.astore_n 3, 1) := by decide +kernel
theorem dL_certify_16 : decode cL_certify 16 = .ok (.iconst 3, 1) := by decide +kernel
theorem dL_certify_17 : decode cL_certify 17 = .ok (.ireturn, 1) := by decide +kernel
theorem dL_certify_18 : decode cL_certify 18 = .ok (.iconst 0, 1) := by decide +kernel
theorem dL_certify_19 : decode cL_certify 19 = .ok (.ireturn, 1) := by decide +kernel
theorem dL_grant_0 : decode cL_grant 0 = .ok (.aload 5, 2) := by decide +kernel
theorem dL_grant_2 : decode cL_grant 2 = .ok (.iconst 0, 1) := by decide +kernel
theorem dL_grant_3 : decode cL_grant 3 = .ok (.aload_n 0, 1) := by decide +kernel
theorem dL_grant_4 : decode cL_grant 4 = .ok (.iload_n 1, 1) := by decide +kernel
theorem dL_grant_5 : decode cL_grant 5 = .ok (.iload_n 2, 1) := by decide +kernel
theorem dL_grant_6 : decode cL_grant 6 = .ok (.iload_n 3, 1) := by decide +kernel
theorem dL_grant_7 : decode cL_grant 7 = .ok (.iload 4, 2) := by decide +kernel
theorem dL_grant_9 : decode cL_grant 9 = .ok (.invokevirtual 29, 3) := by decide +kernel
theorem dL_grant_12 : decode cL_grant 12 = .ok (.ifCond .eq 7, 3) := by decide +kernel
theorem dL_grant_15 : decode cL_grant 15 = .ok (.lconst 1, 1) := by decide +kernel
theorem dL_grant_16 : decode cL_grant 16 = .ok (.goto 4, 3) := by decide +kernel
theorem dL_grant_19 : decode cL_grant 19 = .ok (.lconst 0, 1) := by decide +kernel
theorem dL_grant_20 : decode cL_grant 20 = .ok (.lastore, 1) := by decide +kernel
theorem dL_grant_21 : decode cL_grant 21 = .ok (.goto 11, 3) := by decide +kernel
theorem dL_grant_24 : decode cL_grant 24 = .ok (.astore 6, 2) := by decide +kernel
theorem dL_grant_26 : decode cL_grant 26 = .ok (.iconst 1, 1) := by decide +kernel
theorem dL_grant_27 : decode cL_grant 27 = .ok (.ireturn, 1) := by decide +kernel
theorem dL_grant_28 : decode cL_grant 28 = .ok (.astore 6, 2) := by decide +kernel
theorem dL_grant_30 : decode cL_grant 30 = .ok (.iconst 2, 1) := by decide +kernel
theorem dL_grant_31 : decode cL_grant 31 = .ok (.ireturn, 1) := by decide +kernel
theorem dL_grant_32 : decode cL_grant 32 = .ok (.iconst 0, 1) := by decide +kernel
theorem dL_grant_33 : decode cL_grant 33 = .ok (.ireturn, 1) := by decide +kernel
theorem dL_floor_0 : decode cL_floor 0 = .ok (.aload 5, 2) := by decide +kernel
theorem dL_floor_2 : decode cL_floor 2 = .ok (.iconst 0, 1) := by decide +kernel
theorem dL_floor_3 : decode cL_floor 3 = .ok (.aload_n 0, 1) := by decide +kernel
theorem dL_floor_4 : decode cL_floor 4 = .ok (.iload_n 1, 1) := by decide +kernel
theorem dL_floor_5 : decode cL_floor 5 = .ok (.iload_n 2, 1) := by decide +kernel
theorem dL_floor_6 : decode cL_floor 6 = .ok (.lload_n 3, 1) := by decide +kernel
theorem dL_floor_7 : decode cL_floor 7 = .ok (.invokevirtual 33, 3) := by decide +kernel
theorem dL_floor_10 : decode cL_floor 10 = .ok (.lastore, 1) := by decide +kernel
theorem dL_floor_11 : decode cL_floor 11 = .ok (.goto 15, 3) := by decide +kernel
theorem dL_floor_14 : decode cL_floor 14 = .ok (.astore 6, 2) := by decide +kernel
theorem dL_floor_16 : decode cL_floor 16 = .ok (.iconst 1, 1) := by decide +kernel
theorem dL_floor_17 : decode cL_floor 17 = .ok (.ireturn, 1) := by decide +kernel
theorem dL_floor_18 : decode cL_floor 18 = .ok (.astore 6, 2) := by decide +kernel
theorem dL_floor_20 : decode cL_floor 20 = .ok (.iconst 2, 1) := by decide +kernel
theorem dL_floor_21 : decode cL_floor 21 = .ok (.ireturn, 1) := by decide +kernel
theorem dL_floor_22 : decode cL_floor 22 = .ok (.astore 6, 2) := by decide +kernel
theorem dL_floor_24 : decode cL_floor 24 = .ok (.iconst 3, 1) := by decide +kernel
theorem dL_floor_25 : decode cL_floor 25 = .ok (.ireturn, 1) := by decide +kernel
theorem dL_floor_26 : decode cL_floor 26 = .ok (.iconst 0, 1) := by decide +kernel
theorem dL_floor_27 : decode cL_floor 27 = .ok (.ireturn, 1) := by decide +kernel
theorem dL_ask_0 : decode cL_ask 0 = .ok (.aload 5, 2) := by decide +kernel
theorem dL_ask_2 : decode cL_ask 2 = .ok (.iconst 0, 1) := by decide +kernel
theorem dL_ask_3 : decode cL_ask 3 = .ok (.aload_n 0, 1) := by decide +kernel
theorem dL_ask_4 : decode cL_ask 4 = .ok (.iload_n 1, 1) := by decide +kernel
theorem dL_ask_5 : decode cL_ask 5 = .ok (.iload_n 2, 1) := by decide +kernel
theorem dL_ask_6 : decode cL_ask 6 = .ok (.lload_n 3, 1) := by decide +kernel
theorem dL_ask_7 : decode cL_ask 7 = .ok (.invokevirtual 37, 3) := by decide +kernel
theorem dL_ask_10 : decode cL_ask 10 = .ok (.i2l, 1) := by decide +kernel
theorem dL_ask_11 : decode cL_ask 11 = .ok (.lastore, 1) := by decide +kernel
theorem dL_ask_12 : decode cL_ask 12 = .ok (.goto 19, 3) := by decide +kernel
theorem dL_ask_15 : decode cL_ask 15 = .ok (.astore 6, 2) := by decide +kernel
theorem dL_ask_17 : decode cL_ask 17 = .ok (.iconst 1, 1) := by decide +kernel
theorem dL_ask_18 : decode cL_ask 18 = .ok (.ireturn, 1) := by decide +kernel
theorem dL_ask_19 : decode cL_ask 19 = .ok (.astore 6, 2) := by decide +kernel
theorem dL_ask_21 : decode cL_ask 21 = .ok (.iconst 2, 1) := by decide +kernel
theorem dL_ask_22 : decode cL_ask 22 = .ok (.ireturn, 1) := by decide +kernel
theorem dL_ask_23 : decode cL_ask 23 = .ok (.astore 6, 2) := by decide +kernel
theorem dL_ask_25 : decode cL_ask 25 = .ok (.iconst 3, 1) := by decide +kernel
theorem dL_ask_26 : decode cL_ask 26 = .ok (.ireturn, 1) := by decide +kernel
theorem dL_ask_27 : decode cL_ask 27 = .ok (.astore 6, 2) := by decide +kernel
theorem dL_ask_29 : decode cL_ask 29 = .ok (.iconst 4, 1) := by decide +kernel
theorem dL_ask_30 : decode cL_ask 30 = .ok (.ireturn, 1) := by decide +kernel
theorem dL_ask_31 : decode cL_ask 31 = .ok (.iconst 0, 1) := by decide +kernel
theorem dL_ask_32 : decode cL_ask 32 = .ok (.ireturn, 1) := by decide +kernel
theorem dL_approve_0 : decode cL_approve 0 = .ok (.aload_n 3, 1) := by decide +kernel
theorem dL_approve_1 : decode cL_approve 1 = .ok (.iconst 0, 1) := by decide +kernel
theorem dL_approve_2 : decode cL_approve 2 = .ok (.aload_n 0, 1) := by decide +kernel
theorem dL_approve_3 : decode cL_approve 3 = .ok (.iload_n 1, 1) := by decide +kernel
theorem dL_approve_4 : decode cL_approve 4 = .ok (.iload_n 2, 1) := by decide +kernel
theorem dL_approve_5 : decode cL_approve 5 = .ok (.invokevirtual 41, 3) := by decide +kernel
theorem dL_approve_8 : decode cL_approve 8 = .ok (.i2l, 1) := by decide +kernel
theorem dL_approve_9 : decode cL_approve 9 = .ok (.lastore, 1) := by decide +kernel
theorem dL_approve_10 : decode cL_approve 10 = .ok (.goto 15, 3) := by decide +kernel
theorem dL_approve_13 : decode cL_approve 13 = .ok (.astore 4, 2) := by decide +kernel
theorem dL_approve_15 : decode cL_approve 15 = .ok (.iconst 1, 1) := by decide +kernel
theorem dL_approve_16 : decode cL_approve 16 = .ok (.ireturn, 1) := by decide +kernel
theorem dL_approve_17 : decode cL_approve 17 = .ok (.astore 4, 2) := by decide +kernel
theorem dL_approve_19 : decode cL_approve 19 = .ok (.iconst 2, 1) := by decide +kernel
theorem dL_approve_20 : decode cL_approve 20 = .ok (.ireturn, 1) := by decide +kernel
theorem dL_approve_21 : decode cL_approve 21 = .ok (.astore 4, 2) := by decide +kernel
theorem dL_approve_23 : decode cL_approve 23 = .ok (.iconst 3, 1) := by decide +kernel
theorem dL_approve_24 : decode cL_approve 24 = .ok (.ireturn, 1) := by decide +kernel
theorem dL_approve_25 : decode cL_approve 25 = .ok (.iconst 0, 1) := by decide +kernel
theorem dL_approve_26 : decode cL_approve 26 = .ok (.ireturn, 1) := by decide +kernel
theorem dL_withdraw_0 : decode cL_withdraw 0 = .ok (.aload_n 0, 1) := by decide +kernel
theorem dL_withdraw_1 : decode cL_withdraw 1 = .ok (.iload_n 1, 1) := by decide +kernel
theorem dL_withdraw_2 : decode cL_withdraw 2 = .ok (.iload_n 2, 1) := by decide +kernel
theorem dL_withdraw_3 : decode cL_withdraw 3 = .ok (.invokevirtual 44, 3) := by decide +kernel
theorem dL_withdraw_6 : decode cL_withdraw 6 = .ok (.goto 9, 3) := by decide +kernel
theorem dL_withdraw_9 : decode cL_withdraw 9 = .ok (.astore_n 3, 1) := by decide +kernel
theorem dL_withdraw_10 : decode cL_withdraw 10 = .ok (.iconst 1, 1) := by decide +kernel
theorem dL_withdraw_11 : decode cL_withdraw 11 = .ok (.ireturn, 1) := by decide +kernel
theorem dL_withdraw_12 : decode cL_withdraw 12 = .ok (.astore_n 3, 1) := by decide +kernel
theorem dL_withdraw_13 : decode cL_withdraw 13 = .ok (.iconst 2, 1) := by decide +kernel
theorem dL_withdraw_14 : decode cL_withdraw 14 = .ok (.ireturn, 1) := by decide +kernel
theorem dL_withdraw_15 : decode cL_withdraw 15 = .ok (.iconst 0, 1) := by decide +kernel
theorem dL_withdraw_16 : decode cL_withdraw 16 = .ok (.ireturn, 1) := by decide +kernel
theorem dL_reverse_0 : decode cL_reverse 0 = .ok (.aload_n 3, 1) := by decide +kernel
theorem dL_reverse_1 : decode cL_reverse 1 = .ok (.iconst 0, 1) := by decide +kernel
theorem dL_reverse_2 : decode cL_reverse 2 = .ok (.aload_n 0, 1) := by decide +kernel
theorem dL_reverse_3 : decode cL_reverse 3 = .ok (.iload_n 1, 1) := by decide +kernel
theorem dL_reverse_4 : decode cL_reverse 4 = .ok (.iload_n 2, 1) := by decide +kernel
theorem dL_reverse_5 : decode cL_reverse 5 = .ok (.invokevirtual 47, 3) := by decide +kernel
theorem dL_reverse_8 : decode cL_reverse 8 = .ok (.i2l, 1) := by decide +kernel
theorem dL_reverse_9 : decode cL_reverse 9 = .ok (.lastore, 1) := by decide +kernel
theorem dL_reverse_10 : decode cL_reverse 10 = .ok (.goto 15, 3) := by decide +kernel
theorem dL_reverse_13 : decode cL_reverse 13 = .ok (.astore 4, 2) := by decide +kernel
theorem dL_reverse_15 : decode cL_reverse 15 = .ok (.iconst 1, 1) := by decide +kernel
theorem dL_reverse_16 : decode cL_reverse 16 = .ok (.ireturn, 1) := by decide +kernel
theorem dL_reverse_17 : decode cL_reverse 17 = .ok (.astore 4, 2) := by decide +kernel
theorem dL_reverse_19 : decode cL_reverse 19 = .ok (.iconst 2, 1) := by decide +kernel
theorem dL_reverse_20 : decode cL_reverse 20 = .ok (.ireturn, 1) := by decide +kernel
theorem dL_reverse_21 : decode cL_reverse 21 = .ok (.astore 4, 2) := by decide +kernel
theorem dL_reverse_23 : decode cL_reverse 23 = .ok (.iconst 3, 1) := by decide +kernel
theorem dL_reverse_24 : decode cL_reverse 24 = .ok (.ireturn, 1) := by decide +kernel
theorem dL_reverse_25 : decode cL_reverse 25 = .ok (.iconst 0, 1) := by decide +kernel
theorem dL_reverse_26 : decode cL_reverse 26 = .ok (.ireturn, 1) := by decide +kernel
theorem dL_tamper_0 : decode cL_tamper 0 = .ok (.aload 4, 2) := by decide +kernel
theorem dL_tamper_2 : decode cL_tamper 2 = .ok (.iconst 0, 1) := by decide +kernel
theorem dL_tamper_3 : decode cL_tamper 3 = .ok (.aload_n 0, 1) := by decide +kernel
theorem dL_tamper_4 : decode cL_tamper 4 = .ok (.iload_n 1, 1) := by decide +kernel
theorem dL_tamper_5 : decode cL_tamper 5 = .ok (.lload_n 2, 1) := by decide +kernel
theorem dL_tamper_6 : decode cL_tamper 6 = .ok (.invokevirtual 50, 3) := by decide +kernel
theorem dL_tamper_9 : decode cL_tamper 9 = .ok (.lastore, 1) := by decide +kernel
theorem dL_tamper_10 : decode cL_tamper 10 = .ok (.goto 15, 3) := by decide +kernel
theorem dL_tamper_13 : decode cL_tamper 13 = .ok (.astore 5, 2) := by decide +kernel
theorem dL_tamper_15 : decode cL_tamper 15 = .ok (.iconst 1, 1) := by decide +kernel
theorem dL_tamper_16 : decode cL_tamper 16 = .ok (.ireturn, 1) := by decide +kernel
theorem dL_tamper_17 : decode cL_tamper 17 = .ok (.astore 5, 2) := by decide +kernel
theorem dL_tamper_19 : decode cL_tamper 19 = .ok (.iconst 2, 1) := by decide +kernel
theorem dL_tamper_20 : decode cL_tamper 20 = .ok (.ireturn, 1) := by decide +kernel
theorem dL_tamper_21 : decode cL_tamper 21 = .ok (.astore 5, 2) := by decide +kernel
theorem dL_tamper_23 : decode cL_tamper 23 = .ok (.iconst 3, 1) := by decide +kernel
theorem dL_tamper_24 : decode cL_tamper 24 = .ok (.ireturn, 1) := by decide +kernel
theorem dL_tamper_25 : decode cL_tamper 25 = .ok (.iconst 0, 1) := by decide +kernel
theorem dL_tamper_26 : decode cL_tamper 26 = .ok (.ireturn, 1) := by decide +kernel
theorem dL_restore_0 : decode cL_restore 0 = .ok (.aload_n 2, 1) := by decide +kernel
theorem dL_restore_1 : decode cL_restore 1 = .ok (.iconst 0, 1) := by decide +kernel
theorem dL_restore_2 : decode cL_restore 2 = .ok (.aload_n 0, 1) := by decide +kernel
theorem dL_restore_3 : decode cL_restore 3 = .ok (.iload_n 1, 1) := by decide +kernel
theorem dL_restore_4 : decode cL_restore 4 = .ok (.invokevirtual 54, 3) := by decide +kernel
theorem dL_restore_7 : decode cL_restore 7 = .ok (.i2l, 1) := by decide +kernel
theorem dL_restore_8 : decode cL_restore 8 = .ok (.lastore, 1) := by decide +kernel
theorem dL_restore_9 : decode cL_restore 9 = .ok (.goto 9, 3) := by decide +kernel
theorem dL_restore_12 : decode cL_restore 12 = .ok (.astore_n 3, 1) := by decide +kernel
theorem dL_restore_13 : decode cL_restore 13 = .ok (.iconst 1, 1) := by decide +kernel
theorem dL_restore_14 : decode cL_restore 14 = .ok (.ireturn, 1) := by decide +kernel
theorem dL_restore_15 : decode cL_restore 15 = .ok (.astore_n 3, 1) := by decide +kernel
theorem dL_restore_16 : decode cL_restore 16 = .ok (.iconst 2, 1) := by decide +kernel
theorem dL_restore_17 : decode cL_restore 17 = .ok (.ireturn, 1) := by decide +kernel
theorem dL_restore_18 : decode cL_restore 18 = .ok (.iconst 0, 1) := by decide +kernel
theorem dL_restore_19 : decode cL_restore 19 = .ok (.ireturn, 1) := by decide +kernel
theorem dL_balance_0 : decode cL_balance 0 = .ok (.aload_n 2, 1) := by decide +kernel
theorem dL_balance_1 : decode cL_balance 1 = .ok (.iconst 0, 1) := by decide +kernel
theorem dL_balance_2 : decode cL_balance 2 = .ok (.aload_n 0, 1) := by decide +kernel
theorem dL_balance_3 : decode cL_balance 3 = .ok (.iload_n 1, 1) := by decide +kernel
theorem dL_balance_4 : decode cL_balance 4 = .ok (.invokevirtual 58, 3) := by decide +kernel
theorem dL_balance_7 : decode cL_balance 7 = .ok (.lastore, 1) := by decide +kernel
theorem dL_balance_8 : decode cL_balance 8 = .ok (.goto 6, 3) := by decide +kernel
theorem dL_balance_11 : decode cL_balance 11 = .ok (.astore_n 3, 1) := by decide +kernel
theorem dL_balance_12 : decode cL_balance 12 = .ok (.iconst 1, 1) := by decide +kernel
theorem dL_balance_13 : decode cL_balance 13 = .ok (.ireturn, 1) := by decide +kernel
theorem dL_balance_14 : decode cL_balance 14 = .ok (.iconst 0, 1) := by decide +kernel
theorem dL_balance_15 : decode cL_balance 15 = .ok (.ireturn, 1) := by decide +kernel
theorem dL_balanceAt_0 : decode cL_balanceAt 0 = .ok (.aload_n 3, 1) := by decide +kernel
theorem dL_balanceAt_1 : decode cL_balanceAt 1 = .ok (.iconst 0, 1) := by decide +kernel
theorem dL_balanceAt_2 : decode cL_balanceAt 2 = .ok (.aload_n 0, 1) := by decide +kernel
theorem dL_balanceAt_3 : decode cL_balanceAt 3 = .ok (.iload_n 1, 1) := by decide +kernel
theorem dL_balanceAt_4 : decode cL_balanceAt 4 = .ok (.iload_n 2, 1) := by decide +kernel
theorem dL_balanceAt_5 : decode cL_balanceAt 5 = .ok (.invokevirtual 62, 3) := by decide +kernel
theorem dL_balanceAt_8 : decode cL_balanceAt 8 = .ok (.lastore, 1) := by decide +kernel
theorem dL_balanceAt_9 : decode cL_balanceAt 9 = .ok (.goto 7, 3) := by decide +kernel
theorem dL_balanceAt_12 : decode cL_balanceAt 12 = .ok (.astore 4, 2) := by decide +kernel
theorem dL_balanceAt_14 : decode cL_balanceAt 14 = .ok (.iconst 1, 1) := by decide +kernel
theorem dL_balanceAt_15 : decode cL_balanceAt 15 = .ok (.ireturn, 1) := by decide +kernel
theorem dL_balanceAt_16 : decode cL_balanceAt 16 = .ok (.iconst 0, 1) := by decide +kernel
theorem dL_balanceAt_17 : decode cL_balanceAt 17 = .ok (.ireturn, 1) := by decide +kernel
theorem dL_entry_0 : decode cL_entry 0 = .ok (.aload_n 3, 1) := by decide +kernel
theorem dL_entry_1 : decode cL_entry 1 = .ok (.iconst 0, 1) := by decide +kernel
theorem dL_entry_2 : decode cL_entry 2 = .ok (.aload_n 0, 1) := by decide +kernel
theorem dL_entry_3 : decode cL_entry 3 = .ok (.iload_n 1, 1) := by decide +kernel
theorem dL_entry_4 : decode cL_entry 4 = .ok (.iload_n 2, 1) := by decide +kernel
theorem dL_entry_5 : decode cL_entry 5 = .ok (.invokevirtual 66, 3) := by decide +kernel
theorem dL_entry_8 : decode cL_entry 8 = .ok (.i2l, 1) := by decide +kernel
theorem dL_entry_9 : decode cL_entry 9 = .ok (.lastore, 1) := by decide +kernel
theorem dL_entry_10 : decode cL_entry 10 = .ok (.goto 7, 3) := by decide +kernel
theorem dL_entry_13 : decode cL_entry 13 = .ok (.astore 4, 2) := by decide +kernel
theorem dL_entry_15 : decode cL_entry 15 = .ok (.iconst 1, 1) := by decide +kernel
theorem dL_entry_16 : decode cL_entry 16 = .ok (.ireturn, 1) := by decide +kernel
theorem dL_entry_17 : decode cL_entry 17 = .ok (.iconst 0, 1) := by decide +kernel
theorem dL_entry_18 : decode cL_entry 18 = .ok (.ireturn, 1) := by decide +kernel
theorem dL_amount_0 : decode cL_amount 0 = .ok (.aload_n 2, 1) := by decide +kernel
theorem dL_amount_1 : decode cL_amount 1 = .ok (.iconst 0, 1) := by decide +kernel
theorem dL_amount_2 : decode cL_amount 2 = .ok (.aload_n 0, 1) := by decide +kernel
theorem dL_amount_3 : decode cL_amount 3 = .ok (.iload_n 1, 1) := by decide +kernel
theorem dL_amount_4 : decode cL_amount 4 = .ok (.invokevirtual 69, 3) := by decide +kernel
theorem dL_amount_7 : decode cL_amount 7 = .ok (.lastore, 1) := by decide +kernel
theorem dL_amount_8 : decode cL_amount 8 = .ok (.goto 6, 3) := by decide +kernel
theorem dL_amount_11 : decode cL_amount 11 = .ok (.astore_n 3, 1) := by decide +kernel
theorem dL_amount_12 : decode cL_amount 12 = .ok (.iconst 1, 1) := by decide +kernel
theorem dL_amount_13 : decode cL_amount 13 = .ok (.ireturn, 1) := by decide +kernel
theorem dL_amount_14 : decode cL_amount 14 = .ok (.iconst 0, 1) := by decide +kernel
theorem dL_amount_15 : decode cL_amount 15 = .ok (.ireturn, 1) := by decide +kernel
theorem dL_requested_0 : decode cL_requested 0 = .ok (.aload_n 2, 1) := by decide +kernel
theorem dL_requested_1 : decode cL_requested 1 = .ok (.iconst 0, 1) := by decide +kernel
theorem dL_requested_2 : decode cL_requested 2 = .ok (.aload_n 0, 1) := by decide +kernel
theorem dL_requested_3 : decode cL_requested 3 = .ok (.iload_n 1, 1) := by decide +kernel
theorem dL_requested_4 : decode cL_requested 4 = .ok (.invokevirtual 72, 3) := by decide +kernel
theorem dL_requested_7 : decode cL_requested 7 = .ok (.i2l, 1) := by decide +kernel
theorem dL_requested_8 : decode cL_requested 8 = .ok (.lastore, 1) := by decide +kernel
theorem dL_requested_9 : decode cL_requested 9 = .ok (.goto 6, 3) := by decide +kernel
theorem dL_requested_12 : decode cL_requested 12 = .ok (.astore_n 3, 1) := by decide +kernel
theorem dL_requested_13 : decode cL_requested 13 = .ok (.iconst 1, 1) := by decide +kernel
theorem dL_requested_14 : decode cL_requested 14 = .ok (.ireturn, 1) := by decide +kernel
theorem dL_requested_15 : decode cL_requested 15 = .ok (.iconst 0, 1) := by decide +kernel
theorem dL_requested_16 : decode cL_requested 16 = .ok (.ireturn, 1) := by decide +kernel
theorem dL_law_0 : decode cL_law 0 = .ok (.new 8, 3) := by decide +kernel
theorem dL_law_3 : decode cL_law 3 = .ok (.dup, 1) := by decide +kernel
theorem dL_law_4 : decode cL_law 4 = .ok (.invokespecial 75, 3) := by decide +kernel
theorem dL_law_7 : decode cL_law 7 = .ok (.astore_n 1, 1) := by decide +kernel
theorem dL_law_8 : decode cL_law 8 = .ok (.new 76, 3) := by decide +kernel
theorem dL_law_11 : decode cL_law 11 = .ok (.dup, 1) := by decide +kernel
theorem dL_law_12 : decode cL_law 12 = .ok (.invokespecial 78, 3) := by decide +kernel
theorem dL_law_15 : decode cL_law 15 = .ok (.astore_n 2, 1) := by decide +kernel
theorem dL_law_16 : decode cL_law 16 = .ok (.iconst 1, 1) := by decide +kernel
theorem dL_law_17 : decode cL_law 17 = .ok (.newarray .long, 2) := by decide +kernel
theorem dL_law_19 : decode cL_law 19 = .ok (.astore_n 3, 1) := by decide +kernel
theorem dL_law_20 : decode cL_law 20 = .ok (.iconst 0, 1) := by decide +kernel
theorem dL_law_21 : decode cL_law 21 = .ok (.istore 4, 2) := by decide +kernel
theorem dL_law_23 : decode cL_law 23 = .ok (.iload 4, 2) := by decide +kernel
theorem dL_law_25 : decode cL_law 25 = .ok (.aload_n 0, 1) := by decide +kernel
theorem dL_law_26 : decode cL_law 26 = .ok (.arraylength, 1) := by decide +kernel
theorem dL_law_27 : decode cL_law 27 = .ok (.iconst 5, 1) := by decide +kernel
theorem dL_law_28 : decode cL_law 28 = .ok (.isub, 1) := by decide +kernel
theorem dL_law_29 : decode cL_law 29 = .ok (.if_icmp .gt 1342, 3) := by decide +kernel
theorem dL_law_32 : decode cL_law 32 = .ok (.aload_n 0, 1) := by decide +kernel
theorem dL_law_33 : decode cL_law 33 = .ok (.iload 4, 2) := by decide +kernel
theorem dL_law_35 : decode cL_law 35 = .ok (.iaload, 1) := by decide +kernel
theorem dL_law_36 : decode cL_law 36 = .ok (.bipush 31, 2) := by decide +kernel
theorem dL_law_38 : decode cL_law 38 = .ok (.iand, 1) := by decide +kernel
theorem dL_law_39 : decode cL_law 39 = .ok (.tableswitch 1326 0 18 #[89, 157, 237, 285, 400, 511, 623, 691, 739, 807, 906, 919, 975, 1030, 1097, 1110, 1178, 1233, 1289], 89) := by decide +kernel
theorem dL_law_128 : decode cL_law 128 = .ok (.aload_n 1, 1) := by decide +kernel
theorem dL_law_129 : decode cL_law 129 = .ok (.aload_n 0, 1) := by decide +kernel
theorem dL_law_130 : decode cL_law 130 = .ok (.iload 4, 2) := by decide +kernel
theorem dL_law_132 : decode cL_law 132 = .ok (.iconst 1, 1) := by decide +kernel
theorem dL_law_133 : decode cL_law 133 = .ok (.iadd, 1) := by decide +kernel
theorem dL_law_134 : decode cL_law 134 = .ok (.iaload, 1) := by decide +kernel
theorem dL_law_135 : decode cL_law 135 = .ok (.aload_n 0, 1) := by decide +kernel
theorem dL_law_136 : decode cL_law 136 = .ok (.iload 4, 2) := by decide +kernel
theorem dL_law_138 : decode cL_law 138 = .ok (.iconst 2, 1) := by decide +kernel
theorem dL_law_139 : decode cL_law 139 = .ok (.iadd, 1) := by decide +kernel
theorem dL_law_140 : decode cL_law 140 = .ok (.iaload, 1) := by decide +kernel
theorem dL_law_141 : decode cL_law 141 = .ok (.aload_n 3, 1) := by decide +kernel
theorem dL_law_142 : decode cL_law 142 = .ok (.invokestatic 79, 3) := by decide +kernel
theorem dL_law_145 : decode cL_law 145 = .ok (.istore 5, 2) := by decide +kernel
theorem dL_law_147 : decode cL_law 147 = .ok (.aload_n 2, 1) := by decide +kernel
theorem dL_law_148 : decode cL_law 148 = .ok (.aload_n 0, 1) := by decide +kernel
theorem dL_law_149 : decode cL_law 149 = .ok (.iload 4, 2) := by decide +kernel
theorem dL_law_151 : decode cL_law 151 = .ok (.iconst 1, 1) := by decide +kernel
theorem dL_law_152 : decode cL_law 152 = .ok (.iadd, 1) := by decide +kernel
theorem dL_law_153 : decode cL_law 153 = .ok (.iaload, 1) := by decide +kernel
theorem dL_law_154 : decode cL_law 154 = .ok (.aload_n 0, 1) := by decide +kernel
theorem dL_law_155 : decode cL_law 155 = .ok (.iload 4, 2) := by decide +kernel
theorem dL_law_157 : decode cL_law 157 = .ok (.iconst 2, 1) := by decide +kernel
theorem dL_law_158 : decode cL_law 158 = .ok (.iadd, 1) := by decide +kernel
theorem dL_law_159 : decode cL_law 159 = .ok (.iaload, 1) := by decide +kernel
theorem dL_law_160 : decode cL_law 160 = .ok (.invokevirtual 84, 3) := by decide +kernel
theorem dL_law_163 : decode cL_law 163 = .ok (.istore 6, 2) := by decide +kernel
theorem dL_law_165 : decode cL_law 165 = .ok (.aload_n 2, 1) := by decide +kernel
theorem dL_law_166 : decode cL_law 166 = .ok (.invokevirtual 85, 3) := by decide +kernel
theorem dL_law_169 : decode cL_law 169 = .ok (.iload 5, 2) := by decide +kernel
theorem dL_law_171 : decode cL_law 171 = .ok (.if_icmp .eq 5, 3) := by decide +kernel
theorem dL_law_174 : decode cL_law 174 = .ok (.iconst 0, 1) := by decide +kernel
theorem dL_law_175 : decode cL_law 175 = .ok (.ireturn, 1) := by decide +kernel
theorem dL_law_176 : decode cL_law 176 = .ok (.iload 5, 2) := by decide +kernel
theorem dL_law_178 : decode cL_law 178 = .ok (.ifCond .ne 15, 3) := by decide +kernel
theorem dL_law_181 : decode cL_law 181 = .ok (.aload_n 3, 1) := by decide +kernel
theorem dL_law_182 : decode cL_law 182 = .ok (.iconst 0, 1) := by decide +kernel
theorem dL_law_183 : decode cL_law 183 = .ok (.laload, 1) := by decide +kernel
theorem dL_law_184 : decode cL_law 184 = .ok (.iload 6, 2) := by decide +kernel
theorem dL_law_186 : decode cL_law 186 = .ok (.i2l, 1) := by decide +kernel
theorem dL_law_187 : decode cL_law 187 = .ok (.lcmp, 1) := by decide +kernel
theorem dL_law_188 : decode cL_law 188 = .ok (.ifCond .eq 5, 3) := by decide +kernel
theorem dL_law_191 : decode cL_law 191 = .ok (.iconst 0, 1) := by decide +kernel
theorem dL_law_192 : decode cL_law 192 = .ok (.ireturn, 1) := by decide +kernel
theorem dL_law_193 : decode cL_law 193 = .ok (.goto 1172, 3) := by decide +kernel
theorem dL_law_196 : decode cL_law 196 = .ok (.aload_n 1, 1) := by decide +kernel
theorem dL_law_197 : decode cL_law 197 = .ok (.aload_n 0, 1) := by decide +kernel
theorem dL_law_198 : decode cL_law 198 = .ok (.iload 4, 2) := by decide +kernel
theorem dL_law_200 : decode cL_law 200 = .ok (.iconst 1, 1) := by decide +kernel
theorem dL_law_201 : decode cL_law 201 = .ok (.iadd, 1) := by decide +kernel
theorem dL_law_202 : decode cL_law 202 = .ok (.iaload, 1) := by decide +kernel
theorem dL_law_203 : decode cL_law 203 = .ok (.aload_n 0, 1) := by decide +kernel
theorem dL_law_204 : decode cL_law 204 = .ok (.iload 4, 2) := by decide +kernel
theorem dL_law_206 : decode cL_law 206 = .ok (.iconst 2, 1) := by decide +kernel
theorem dL_law_207 : decode cL_law 207 = .ok (.iadd, 1) := by decide +kernel
theorem dL_law_208 : decode cL_law 208 = .ok (.iaload, 1) := by decide +kernel
theorem dL_law_209 : decode cL_law 209 = .ok (.aload_n 0, 1) := by decide +kernel
theorem dL_law_210 : decode cL_law 210 = .ok (.iload 4, 2) := by decide +kernel
theorem dL_law_212 : decode cL_law 212 = .ok (.iconst 3, 1) := by decide +kernel
theorem dL_law_213 : decode cL_law 213 = .ok (.iadd, 1) := by decide +kernel
theorem dL_law_214 : decode cL_law 214 = .ok (.iaload, 1) := by decide +kernel
theorem dL_law_215 : decode cL_law 215 = .ok (.aload_n 3, 1) := by decide +kernel
theorem dL_law_216 : decode cL_law 216 = .ok (.invokestatic 89, 3) := by decide +kernel
theorem dL_law_219 : decode cL_law 219 = .ok (.istore 5, 2) := by decide +kernel
theorem dL_law_221 : decode cL_law 221 = .ok (.aload_n 2, 1) := by decide +kernel
theorem dL_law_222 : decode cL_law 222 = .ok (.aload_n 0, 1) := by decide +kernel
theorem dL_law_223 : decode cL_law 223 = .ok (.iload 4, 2) := by decide +kernel
theorem dL_law_225 : decode cL_law 225 = .ok (.iconst 1, 1) := by decide +kernel
theorem dL_law_226 : decode cL_law 226 = .ok (.iadd, 1) := by decide +kernel
theorem dL_law_227 : decode cL_law 227 = .ok (.iaload, 1) := by decide +kernel
theorem dL_law_228 : decode cL_law 228 = .ok (.aload_n 0, 1) := by decide +kernel
theorem dL_law_229 : decode cL_law 229 = .ok (.iload 4, 2) := by decide +kernel
theorem dL_law_231 : decode cL_law 231 = .ok (.iconst 2, 1) := by decide +kernel
theorem dL_law_232 : decode cL_law 232 = .ok (.iadd, 1) := by decide +kernel
theorem dL_law_233 : decode cL_law 233 = .ok (.iaload, 1) := by decide +kernel
theorem dL_law_234 : decode cL_law 234 = .ok (.aload_n 0, 1) := by decide +kernel
theorem dL_law_235 : decode cL_law 235 = .ok (.iload 4, 2) := by decide +kernel
theorem dL_law_237 : decode cL_law 237 = .ok (.iconst 3, 1) := by decide +kernel
theorem dL_law_238 : decode cL_law 238 = .ok (.iadd, 1) := by decide +kernel
theorem dL_law_239 : decode cL_law 239 = .ok (.iaload, 1) := by decide +kernel
theorem dL_law_240 : decode cL_law 240 = .ok (.invokevirtual 92, 3) := by decide +kernel
theorem dL_law_243 : decode cL_law 243 = .ok (.istore 6, 2) := by decide +kernel
theorem dL_law_245 : decode cL_law 245 = .ok (.aload_n 2, 1) := by decide +kernel
theorem dL_law_246 : decode cL_law 246 = .ok (.invokevirtual 85, 3) := by decide +kernel
theorem dL_law_249 : decode cL_law 249 = .ok (.iload 5, 2) := by decide +kernel
theorem dL_law_251 : decode cL_law 251 = .ok (.if_icmp .eq 5, 3) := by decide +kernel
theorem dL_law_254 : decode cL_law 254 = .ok (.iconst 0, 1) := by decide +kernel
theorem dL_law_255 : decode cL_law 255 = .ok (.ireturn, 1) := by decide +kernel
theorem dL_law_256 : decode cL_law 256 = .ok (.iload 5, 2) := by decide +kernel
theorem dL_law_258 : decode cL_law 258 = .ok (.ifCond .ne 15, 3) := by decide +kernel
theorem dL_law_261 : decode cL_law 261 = .ok (.aload_n 3, 1) := by decide +kernel
theorem dL_law_262 : decode cL_law 262 = .ok (.iconst 0, 1) := by decide +kernel
theorem dL_law_263 : decode cL_law 263 = .ok (.laload, 1) := by decide +kernel
theorem dL_law_264 : decode cL_law 264 = .ok (.iload 6, 2) := by decide +kernel
theorem dL_law_266 : decode cL_law 266 = .ok (.i2l, 1) := by decide +kernel
theorem dL_law_267 : decode cL_law 267 = .ok (.lcmp, 1) := by decide +kernel
theorem dL_law_268 : decode cL_law 268 = .ok (.ifCond .eq 5, 3) := by decide +kernel
theorem dL_law_271 : decode cL_law 271 = .ok (.iconst 0, 1) := by decide +kernel
theorem dL_law_272 : decode cL_law 272 = .ok (.ireturn, 1) := by decide +kernel
theorem dL_law_273 : decode cL_law 273 = .ok (.goto 1092, 3) := by decide +kernel
theorem dL_law_276 : decode cL_law 276 = .ok (.aload_n 1, 1) := by decide +kernel
theorem dL_law_277 : decode cL_law 277 = .ok (.aload_n 0, 1) := by decide +kernel
theorem dL_law_278 : decode cL_law 278 = .ok (.iload 4, 2) := by decide +kernel
theorem dL_law_280 : decode cL_law 280 = .ok (.iconst 1, 1) := by decide +kernel
theorem dL_law_281 : decode cL_law 281 = .ok (.iadd, 1) := by decide +kernel
theorem dL_law_282 : decode cL_law 282 = .ok (.iaload, 1) := by decide +kernel
theorem dL_law_283 : decode cL_law 283 = .ok (.aload_n 0, 1) := by decide +kernel
theorem dL_law_284 : decode cL_law 284 = .ok (.iload 4, 2) := by decide +kernel
theorem dL_law_286 : decode cL_law 286 = .ok (.iconst 2, 1) := by decide +kernel
theorem dL_law_287 : decode cL_law 287 = .ok (.iadd, 1) := by decide +kernel
theorem dL_law_288 : decode cL_law 288 = .ok (.iaload, 1) := by decide +kernel
theorem dL_law_289 : decode cL_law 289 = .ok (.invokestatic 93, 3) := by decide +kernel
theorem dL_law_292 : decode cL_law 292 = .ok (.istore 5, 2) := by decide +kernel
theorem dL_law_294 : decode cL_law 294 = .ok (.aload_n 2, 1) := by decide +kernel
theorem dL_law_295 : decode cL_law 295 = .ok (.aload_n 0, 1) := by decide +kernel
theorem dL_law_296 : decode cL_law 296 = .ok (.iload 4, 2) := by decide +kernel
theorem dL_law_298 : decode cL_law 298 = .ok (.iconst 1, 1) := by decide +kernel
theorem dL_law_299 : decode cL_law 299 = .ok (.iadd, 1) := by decide +kernel
theorem dL_law_300 : decode cL_law 300 = .ok (.iaload, 1) := by decide +kernel
theorem dL_law_301 : decode cL_law 301 = .ok (.aload_n 0, 1) := by decide +kernel
theorem dL_law_302 : decode cL_law 302 = .ok (.iload 4, 2) := by decide +kernel
theorem dL_law_304 : decode cL_law 304 = .ok (.iconst 2, 1) := by decide +kernel
theorem dL_law_305 : decode cL_law 305 = .ok (.iadd, 1) := by decide +kernel
theorem dL_law_306 : decode cL_law 306 = .ok (.iaload, 1) := by decide +kernel
theorem dL_law_307 : decode cL_law 307 = .ok (.invokevirtual 96, 3) := by decide +kernel
theorem dL_law_310 : decode cL_law 310 = .ok (.aload_n 2, 1) := by decide +kernel
theorem dL_law_311 : decode cL_law 311 = .ok (.invokevirtual 85, 3) := by decide +kernel
theorem dL_law_314 : decode cL_law 314 = .ok (.iload 5, 2) := by decide +kernel
theorem dL_law_316 : decode cL_law 316 = .ok (.if_icmp .eq 5, 3) := by decide +kernel
theorem dL_law_319 : decode cL_law 319 = .ok (.iconst 0, 1) := by decide +kernel
theorem dL_law_320 : decode cL_law 320 = .ok (.ireturn, 1) := by decide +kernel
theorem dL_law_321 : decode cL_law 321 = .ok (.goto 1044, 3) := by decide +kernel
theorem dL_law_324 : decode cL_law 324 = .ok (.aload_n 1, 1) := by decide +kernel
theorem dL_law_325 : decode cL_law 325 = .ok (.aload_n 0, 1) := by decide +kernel
theorem dL_law_326 : decode cL_law 326 = .ok (.iload 4, 2) := by decide +kernel
theorem dL_law_328 : decode cL_law 328 = .ok (.iconst 1, 1) := by decide +kernel
theorem dL_law_329 : decode cL_law 329 = .ok (.iadd, 1) := by decide +kernel
theorem dL_law_330 : decode cL_law 330 = .ok (.iaload, 1) := by decide +kernel
theorem dL_law_331 : decode cL_law 331 = .ok (.aload_n 0, 1) := by decide +kernel
theorem dL_law_332 : decode cL_law 332 = .ok (.iload 4, 2) := by decide +kernel
theorem dL_law_334 : decode cL_law 334 = .ok (.iconst 2, 1) := by decide +kernel
theorem dL_law_335 : decode cL_law 335 = .ok (.iadd, 1) := by decide +kernel
theorem dL_law_336 : decode cL_law 336 = .ok (.iaload, 1) := by decide +kernel
theorem dL_law_337 : decode cL_law 337 = .ok (.aload_n 0, 1) := by decide +kernel
theorem dL_law_338 : decode cL_law 338 = .ok (.iload 4, 2) := by decide +kernel
theorem dL_law_340 : decode cL_law 340 = .ok (.iconst 3, 1) := by decide +kernel
theorem dL_law_341 : decode cL_law 341 = .ok (.iadd, 1) := by decide +kernel
theorem dL_law_342 : decode cL_law 342 = .ok (.iaload, 1) := by decide +kernel
theorem dL_law_343 : decode cL_law 343 = .ok (.aload_n 0, 1) := by decide +kernel
theorem dL_law_344 : decode cL_law 344 = .ok (.iload 4, 2) := by decide +kernel
theorem dL_law_346 : decode cL_law 346 = .ok (.iconst 4, 1) := by decide +kernel
theorem dL_law_347 : decode cL_law 347 = .ok (.iadd, 1) := by decide +kernel
theorem dL_law_348 : decode cL_law 348 = .ok (.iaload, 1) := by decide +kernel
theorem dL_law_349 : decode cL_law 349 = .ok (.ifCond .eq 7, 3) := by decide +kernel
theorem dL_law_352 : decode cL_law 352 = .ok (.iconst 1, 1) := by decide +kernel
theorem dL_law_353 : decode cL_law 353 = .ok (.goto 4, 3) := by decide +kernel
theorem dL_law_356 : decode cL_law 356 = .ok (.iconst 0, 1) := by decide +kernel
theorem dL_law_357 : decode cL_law 357 = .ok (.aload_n 3, 1) := by decide +kernel
theorem dL_law_358 : decode cL_law 358 = .ok (.invokestatic 97, 3) := by decide +kernel
theorem dL_law_361 : decode cL_law 361 = .ok (.istore 5, 2) := by decide +kernel
theorem dL_law_363 : decode cL_law 363 = .ok (.aload_n 2, 1) := by decide +kernel
theorem dL_law_364 : decode cL_law 364 = .ok (.aload_n 0, 1) := by decide +kernel
theorem dL_law_365 : decode cL_law 365 = .ok (.iload 4, 2) := by decide +kernel
theorem dL_law_367 : decode cL_law 367 = .ok (.iconst 1, 1) := by decide +kernel
theorem dL_law_368 : decode cL_law 368 = .ok (.iadd, 1) := by decide +kernel
theorem dL_law_369 : decode cL_law 369 = .ok (.iaload, 1) := by decide +kernel
theorem dL_law_370 : decode cL_law 370 = .ok (.aload_n 0, 1) := by decide +kernel
theorem dL_law_371 : decode cL_law 371 = .ok (.iload 4, 2) := by decide +kernel
theorem dL_law_373 : decode cL_law 373 = .ok (.iconst 2, 1) := by decide +kernel
theorem dL_law_374 : decode cL_law 374 = .ok (.iadd, 1) := by decide +kernel
theorem dL_law_375 : decode cL_law 375 = .ok (.iaload, 1) := by decide +kernel
theorem dL_law_376 : decode cL_law 376 = .ok (.aload_n 0, 1) := by decide +kernel
theorem dL_law_377 : decode cL_law 377 = .ok (.iload 4, 2) := by decide +kernel
theorem dL_law_379 : decode cL_law 379 = .ok (.iconst 3, 1) := by decide +kernel
theorem dL_law_380 : decode cL_law 380 = .ok (.iadd, 1) := by decide +kernel
theorem dL_law_381 : decode cL_law 381 = .ok (.iaload, 1) := by decide +kernel
theorem dL_law_382 : decode cL_law 382 = .ok (.aload_n 0, 1) := by decide +kernel
theorem dL_law_383 : decode cL_law 383 = .ok (.iload 4, 2) := by decide +kernel
theorem dL_law_385 : decode cL_law 385 = .ok (.iconst 4, 1) := by decide +kernel
theorem dL_law_386 : decode cL_law 386 = .ok (.iadd, 1) := by decide +kernel
theorem dL_law_387 : decode cL_law 387 = .ok (.iaload, 1) := by decide +kernel
theorem dL_law_388 : decode cL_law 388 = .ok (.ifCond .eq 7, 3) := by decide +kernel
theorem dL_law_391 : decode cL_law 391 = .ok (.iconst 1, 1) := by decide +kernel
theorem dL_law_392 : decode cL_law 392 = .ok (.goto 4, 3) := by decide +kernel
theorem dL_law_395 : decode cL_law 395 = .ok (.iconst 0, 1) := by decide +kernel
theorem dL_law_396 : decode cL_law 396 = .ok (.invokevirtual 100, 3) := by decide +kernel
theorem dL_law_399 : decode cL_law 399 = .ok (.istore 6, 2) := by decide +kernel
theorem dL_law_401 : decode cL_law 401 = .ok (.aload_n 2, 1) := by decide +kernel
theorem dL_law_402 : decode cL_law 402 = .ok (.invokevirtual 85, 3) := by decide +kernel
theorem dL_law_405 : decode cL_law 405 = .ok (.iload 5, 2) := by decide +kernel
theorem dL_law_407 : decode cL_law 407 = .ok (.if_icmp .eq 5, 3) := by decide +kernel
theorem dL_law_410 : decode cL_law 410 = .ok (.iconst 0, 1) := by decide +kernel
theorem dL_law_411 : decode cL_law 411 = .ok (.ireturn, 1) := by decide +kernel
theorem dL_law_412 : decode cL_law 412 = .ok (.iload 5, 2) := by decide +kernel
theorem dL_law_414 : decode cL_law 414 = .ok (.ifCond .ne 22, 3) := by decide +kernel
theorem dL_law_417 : decode cL_law 417 = .ok (.aload_n 3, 1) := by decide +kernel
theorem dL_law_418 : decode cL_law 418 = .ok (.iconst 0, 1) := by decide +kernel
theorem dL_law_419 : decode cL_law 419 = .ok (.laload, 1) := by decide +kernel
theorem dL_law_420 : decode cL_law 420 = .ok (.iload 6, 2) := by decide +kernel
theorem dL_law_422 : decode cL_law 422 = .ok (.ifCond .eq 7, 3) := by decide +kernel
theorem dL_law_425 : decode cL_law 425 = .ok (.lconst 1, 1) := by decide +kernel
theorem dL_law_426 : decode cL_law 426 = .ok (.goto 4, 3) := by decide +kernel
theorem dL_law_429 : decode cL_law 429 = .ok (.lconst 0, 1) := by decide +kernel
theorem dL_law_430 : decode cL_law 430 = .ok (.lcmp, 1) := by decide +kernel
theorem dL_law_431 : decode cL_law 431 = .ok (.ifCond .eq 5, 3) := by decide +kernel
theorem dL_law_434 : decode cL_law 434 = .ok (.iconst 0, 1) := by decide +kernel
theorem dL_law_435 : decode cL_law 435 = .ok (.ireturn, 1) := by decide +kernel
theorem dL_law_436 : decode cL_law 436 = .ok (.goto 929, 3) := by decide +kernel
theorem dL_law_439 : decode cL_law 439 = .ok (.aload_n 1, 1) := by decide +kernel
theorem dL_law_440 : decode cL_law 440 = .ok (.aload_n 0, 1) := by decide +kernel
theorem dL_law_441 : decode cL_law 441 = .ok (.iload 4, 2) := by decide +kernel
theorem dL_law_443 : decode cL_law 443 = .ok (.iconst 1, 1) := by decide +kernel
theorem dL_law_444 : decode cL_law 444 = .ok (.iadd, 1) := by decide +kernel
theorem dL_law_445 : decode cL_law 445 = .ok (.iaload, 1) := by decide +kernel
theorem dL_law_446 : decode cL_law 446 = .ok (.aload_n 0, 1) := by decide +kernel
theorem dL_law_447 : decode cL_law 447 = .ok (.iload 4, 2) := by decide +kernel
theorem dL_law_449 : decode cL_law 449 = .ok (.iconst 2, 1) := by decide +kernel
theorem dL_law_450 : decode cL_law 450 = .ok (.iadd, 1) := by decide +kernel
theorem dL_law_451 : decode cL_law 451 = .ok (.iaload, 1) := by decide +kernel
theorem dL_law_452 : decode cL_law 452 = .ok (.aload_n 0, 1) := by decide +kernel
theorem dL_law_453 : decode cL_law 453 = .ok (.iload 4, 2) := by decide +kernel
theorem dL_law_455 : decode cL_law 455 = .ok (.iconst 3, 1) := by decide +kernel
theorem dL_law_456 : decode cL_law 456 = .ok (.iadd, 1) := by decide +kernel
theorem dL_law_457 : decode cL_law 457 = .ok (.iaload, 1) := by decide +kernel
theorem dL_law_458 : decode cL_law 458 = .ok (.i2l, 1) := by decide +kernel
theorem dL_law_459 : decode cL_law 459 = .ok (.bipush 32, 2) := by decide +kernel
theorem dL_law_461 : decode cL_law 461 = .ok (.lshl, 1) := by decide +kernel
theorem dL_law_462 : decode cL_law 462 = .ok (.aload_n 0, 1) := by decide +kernel
theorem dL_law_463 : decode cL_law 463 = .ok (.iload 4, 2) := by decide +kernel
theorem dL_law_465 : decode cL_law 465 = .ok (.iconst 4, 1) := by decide +kernel
theorem dL_law_466 : decode cL_law 466 = .ok (.iadd, 1) := by decide +kernel
theorem dL_law_467 : decode cL_law 467 = .ok (.iaload, 1) := by decide +kernel
theorem dL_law_468 : decode cL_law 468 = .ok (.i2l, 1) := by decide +kernel
theorem dL_law_469 : decode cL_law 469 = .ok (.ldc2_w 101, 3) := by decide +kernel
theorem dL_law_472 : decode cL_law 472 = .ok (.land, 1) := by decide +kernel
theorem dL_law_473 : decode cL_law 473 = .ok (.lor, 1) := by decide +kernel
theorem dL_law_474 : decode cL_law 474 = .ok (.aload_n 3, 1) := by decide +kernel
theorem dL_law_475 : decode cL_law 475 = .ok (.invokestatic 103, 3) := by decide +kernel
theorem dL_law_478 : decode cL_law 478 = .ok (.istore 5, 2) := by decide +kernel
theorem dL_law_480 : decode cL_law 480 = .ok (.aload_n 2, 1) := by decide +kernel
theorem dL_law_481 : decode cL_law 481 = .ok (.aload_n 0, 1) := by decide +kernel
theorem dL_law_482 : decode cL_law 482 = .ok (.iload 4, 2) := by decide +kernel
theorem dL_law_484 : decode cL_law 484 = .ok (.iconst 1, 1) := by decide +kernel
theorem dL_law_485 : decode cL_law 485 = .ok (.iadd, 1) := by decide +kernel
theorem dL_law_486 : decode cL_law 486 = .ok (.iaload, 1) := by decide +kernel
theorem dL_law_487 : decode cL_law 487 = .ok (.aload_n 0, 1) := by decide +kernel
theorem dL_law_488 : decode cL_law 488 = .ok (.iload 4, 2) := by decide +kernel
theorem dL_law_490 : decode cL_law 490 = .ok (.iconst 2, 1) := by decide +kernel
theorem dL_law_491 : decode cL_law 491 = .ok (.iadd, 1) := by decide +kernel
theorem dL_law_492 : decode cL_law 492 = .ok (.iaload, 1) := by decide +kernel
theorem dL_law_493 : decode cL_law 493 = .ok (.aload_n 0, 1) := by decide +kernel
theorem dL_law_494 : decode cL_law 494 = .ok (.iload 4, 2) := by decide +kernel
theorem dL_law_496 : decode cL_law 496 = .ok (.iconst 3, 1) := by decide +kernel
theorem dL_law_497 : decode cL_law 497 = .ok (.iadd, 1) := by decide +kernel
theorem dL_law_498 : decode cL_law 498 = .ok (.iaload, 1) := by decide +kernel
theorem dL_law_499 : decode cL_law 499 = .ok (.i2l, 1) := by decide +kernel
theorem dL_law_500 : decode cL_law 500 = .ok (.bipush 32, 2) := by decide +kernel
theorem dL_law_502 : decode cL_law 502 = .ok (.lshl, 1) := by decide +kernel
theorem dL_law_503 : decode cL_law 503 = .ok (.aload_n 0, 1) := by decide +kernel
theorem dL_law_504 : decode cL_law 504 = .ok (.iload 4, 2) := by decide +kernel
theorem dL_law_506 : decode cL_law 506 = .ok (.iconst 4, 1) := by decide +kernel
theorem dL_law_507 : decode cL_law 507 = .ok (.iadd, 1) := by decide +kernel
theorem dL_law_508 : decode cL_law 508 = .ok (.iaload, 1) := by decide +kernel
theorem dL_law_509 : decode cL_law 509 = .ok (.i2l, 1) := by decide +kernel
theorem dL_law_510 : decode cL_law 510 = .ok (.ldc2_w 101, 3) := by decide +kernel
theorem dL_law_513 : decode cL_law 513 = .ok (.land, 1) := by decide +kernel
theorem dL_law_514 : decode cL_law 514 = .ok (.lor, 1) := by decide +kernel
theorem dL_law_515 : decode cL_law 515 = .ok (.invokevirtual 106, 3) := by decide +kernel
theorem dL_law_518 : decode cL_law 518 = .ok (.lstore 6, 2) := by decide +kernel
theorem dL_law_520 : decode cL_law 520 = .ok (.aload_n 2, 1) := by decide +kernel
theorem dL_law_521 : decode cL_law 521 = .ok (.invokevirtual 85, 3) := by decide +kernel
theorem dL_law_524 : decode cL_law 524 = .ok (.iload 5, 2) := by decide +kernel
theorem dL_law_526 : decode cL_law 526 = .ok (.if_icmp .eq 5, 3) := by decide +kernel
theorem dL_law_529 : decode cL_law 529 = .ok (.iconst 0, 1) := by decide +kernel
theorem dL_law_530 : decode cL_law 530 = .ok (.ireturn, 1) := by decide +kernel
theorem dL_law_531 : decode cL_law 531 = .ok (.iload 5, 2) := by decide +kernel
theorem dL_law_533 : decode cL_law 533 = .ok (.ifCond .ne 14, 3) := by decide +kernel
theorem dL_law_536 : decode cL_law 536 = .ok (.aload_n 3, 1) := by decide +kernel
theorem dL_law_537 : decode cL_law 537 = .ok (.iconst 0, 1) := by decide +kernel
theorem dL_law_538 : decode cL_law 538 = .ok (.laload, 1) := by decide +kernel
theorem dL_law_539 : decode cL_law 539 = .ok (.lload 6, 2) := by decide +kernel
theorem dL_law_541 : decode cL_law 541 = .ok (.lcmp, 1) := by decide +kernel
theorem dL_law_542 : decode cL_law 542 = .ok (.ifCond .eq 5, 3) := by decide +kernel
theorem dL_law_545 : decode cL_law 545 = .ok (.iconst 0, 1) := by decide +kernel
theorem dL_law_546 : decode cL_law 546 = .ok (.ireturn, 1) := by decide +kernel
theorem dL_law_547 : decode cL_law 547 = .ok (.goto 818, 3) := by decide +kernel
theorem dL_law_550 : decode cL_law 550 = .ok (.aload_n 1, 1) := by decide +kernel
theorem dL_law_551 : decode cL_law 551 = .ok (.aload_n 0, 1) := by decide +kernel
theorem dL_law_552 : decode cL_law 552 = .ok (.iload 4, 2) := by decide +kernel
theorem dL_law_554 : decode cL_law 554 = .ok (.iconst 1, 1) := by decide +kernel
theorem dL_law_555 : decode cL_law 555 = .ok (.iadd, 1) := by decide +kernel
theorem dL_law_556 : decode cL_law 556 = .ok (.iaload, 1) := by decide +kernel
theorem dL_law_557 : decode cL_law 557 = .ok (.aload_n 0, 1) := by decide +kernel
theorem dL_law_558 : decode cL_law 558 = .ok (.iload 4, 2) := by decide +kernel
theorem dL_law_560 : decode cL_law 560 = .ok (.iconst 2, 1) := by decide +kernel
theorem dL_law_561 : decode cL_law 561 = .ok (.iadd, 1) := by decide +kernel
theorem dL_law_562 : decode cL_law 562 = .ok (.iaload, 1) := by decide +kernel
theorem dL_law_563 : decode cL_law 563 = .ok (.aload_n 0, 1) := by decide +kernel
theorem dL_law_564 : decode cL_law 564 = .ok (.iload 4, 2) := by decide +kernel
theorem dL_law_566 : decode cL_law 566 = .ok (.iconst 3, 1) := by decide +kernel
theorem dL_law_567 : decode cL_law 567 = .ok (.iadd, 1) := by decide +kernel
theorem dL_law_568 : decode cL_law 568 = .ok (.iaload, 1) := by decide +kernel
theorem dL_law_569 : decode cL_law 569 = .ok (.i2l, 1) := by decide +kernel
theorem dL_law_570 : decode cL_law 570 = .ok (.bipush 32, 2) := by decide +kernel
theorem dL_law_572 : decode cL_law 572 = .ok (.lshl, 1) := by decide +kernel
theorem dL_law_573 : decode cL_law 573 = .ok (.aload_n 0, 1) := by decide +kernel
theorem dL_law_574 : decode cL_law 574 = .ok (.iload 4, 2) := by decide +kernel
theorem dL_law_576 : decode cL_law 576 = .ok (.iconst 4, 1) := by decide +kernel
theorem dL_law_577 : decode cL_law 577 = .ok (.iadd, 1) := by decide +kernel
theorem dL_law_578 : decode cL_law 578 = .ok (.iaload, 1) := by decide +kernel
theorem dL_law_579 : decode cL_law 579 = .ok (.i2l, 1) := by decide +kernel
theorem dL_law_580 : decode cL_law 580 = .ok (.ldc2_w 101, 3) := by decide +kernel
theorem dL_law_583 : decode cL_law 583 = .ok (.land, 1) := by decide +kernel
theorem dL_law_584 : decode cL_law 584 = .ok (.lor, 1) := by decide +kernel
theorem dL_law_585 : decode cL_law 585 = .ok (.aload_n 3, 1) := by decide +kernel
theorem dL_law_586 : decode cL_law 586 = .ok (.invokestatic 107, 3) := by decide +kernel
theorem dL_law_589 : decode cL_law 589 = .ok (.istore 5, 2) := by decide +kernel
theorem dL_law_591 : decode cL_law 591 = .ok (.aload_n 2, 1) := by decide +kernel
theorem dL_law_592 : decode cL_law 592 = .ok (.aload_n 0, 1) := by decide +kernel
theorem dL_law_593 : decode cL_law 593 = .ok (.iload 4, 2) := by decide +kernel
theorem dL_law_595 : decode cL_law 595 = .ok (.iconst 1, 1) := by decide +kernel
theorem dL_law_596 : decode cL_law 596 = .ok (.iadd, 1) := by decide +kernel
theorem dL_law_597 : decode cL_law 597 = .ok (.iaload, 1) := by decide +kernel
theorem dL_law_598 : decode cL_law 598 = .ok (.aload_n 0, 1) := by decide +kernel
theorem dL_law_599 : decode cL_law 599 = .ok (.iload 4, 2) := by decide +kernel
theorem dL_law_601 : decode cL_law 601 = .ok (.iconst 2, 1) := by decide +kernel
theorem dL_law_602 : decode cL_law 602 = .ok (.iadd, 1) := by decide +kernel
theorem dL_law_603 : decode cL_law 603 = .ok (.iaload, 1) := by decide +kernel
theorem dL_law_604 : decode cL_law 604 = .ok (.aload_n 0, 1) := by decide +kernel
theorem dL_law_605 : decode cL_law 605 = .ok (.iload 4, 2) := by decide +kernel
theorem dL_law_607 : decode cL_law 607 = .ok (.iconst 3, 1) := by decide +kernel
theorem dL_law_608 : decode cL_law 608 = .ok (.iadd, 1) := by decide +kernel
theorem dL_law_609 : decode cL_law 609 = .ok (.iaload, 1) := by decide +kernel
theorem dL_law_610 : decode cL_law 610 = .ok (.i2l, 1) := by decide +kernel
theorem dL_law_611 : decode cL_law 611 = .ok (.bipush 32, 2) := by decide +kernel
theorem dL_law_613 : decode cL_law 613 = .ok (.lshl, 1) := by decide +kernel
theorem dL_law_614 : decode cL_law 614 = .ok (.aload_n 0, 1) := by decide +kernel
theorem dL_law_615 : decode cL_law 615 = .ok (.iload 4, 2) := by decide +kernel
theorem dL_law_617 : decode cL_law 617 = .ok (.iconst 4, 1) := by decide +kernel
theorem dL_law_618 : decode cL_law 618 = .ok (.iadd, 1) := by decide +kernel
theorem dL_law_619 : decode cL_law 619 = .ok (.iaload, 1) := by decide +kernel
theorem dL_law_620 : decode cL_law 620 = .ok (.i2l, 1) := by decide +kernel
theorem dL_law_621 : decode cL_law 621 = .ok (.ldc2_w 101, 3) := by decide +kernel
theorem dL_law_624 : decode cL_law 624 = .ok (.land, 1) := by decide +kernel
theorem dL_law_625 : decode cL_law 625 = .ok (.lor, 1) := by decide +kernel
theorem dL_law_626 : decode cL_law 626 = .ok (.invokevirtual 109, 3) := by decide +kernel
theorem dL_law_629 : decode cL_law 629 = .ok (.istore 6, 2) := by decide +kernel
theorem dL_law_631 : decode cL_law 631 = .ok (.aload_n 2, 1) := by decide +kernel
theorem dL_law_632 : decode cL_law 632 = .ok (.invokevirtual 85, 3) := by decide +kernel
theorem dL_law_635 : decode cL_law 635 = .ok (.iload 5, 2) := by decide +kernel
theorem dL_law_637 : decode cL_law 637 = .ok (.if_icmp .eq 5, 3) := by decide +kernel
theorem dL_law_640 : decode cL_law 640 = .ok (.iconst 0, 1) := by decide +kernel
theorem dL_law_641 : decode cL_law 641 = .ok (.ireturn, 1) := by decide +kernel
theorem dL_law_642 : decode cL_law 642 = .ok (.iload 5, 2) := by decide +kernel
theorem dL_law_644 : decode cL_law 644 = .ok (.ifCond .ne 15, 3) := by decide +kernel
theorem dL_law_647 : decode cL_law 647 = .ok (.aload_n 3, 1) := by decide +kernel
theorem dL_law_648 : decode cL_law 648 = .ok (.iconst 0, 1) := by decide +kernel
theorem dL_law_649 : decode cL_law 649 = .ok (.laload, 1) := by decide +kernel
theorem dL_law_650 : decode cL_law 650 = .ok (.iload 6, 2) := by decide +kernel
theorem dL_law_652 : decode cL_law 652 = .ok (.i2l, 1) := by decide +kernel
theorem dL_law_653 : decode cL_law 653 = .ok (.lcmp, 1) := by decide +kernel
theorem dL_law_654 : decode cL_law 654 = .ok (.ifCond .eq 5, 3) := by decide +kernel
theorem dL_law_657 : decode cL_law 657 = .ok (.iconst 0, 1) := by decide +kernel
theorem dL_law_658 : decode cL_law 658 = .ok (.ireturn, 1) := by decide +kernel
theorem dL_law_659 : decode cL_law 659 = .ok (.goto 706, 3) := by decide +kernel
theorem dL_law_662 : decode cL_law 662 = .ok (.aload_n 1, 1) := by decide +kernel
theorem dL_law_663 : decode cL_law 663 = .ok (.aload_n 0, 1) := by decide +kernel
theorem dL_law_664 : decode cL_law 664 = .ok (.iload 4, 2) := by decide +kernel
theorem dL_law_666 : decode cL_law 666 = .ok (.iconst 1, 1) := by decide +kernel
theorem dL_law_667 : decode cL_law 667 = .ok (.iadd, 1) := by decide +kernel
theorem dL_law_668 : decode cL_law 668 = .ok (.iaload, 1) := by decide +kernel
theorem dL_law_669 : decode cL_law 669 = .ok (.aload_n 0, 1) := by decide +kernel
theorem dL_law_670 : decode cL_law 670 = .ok (.iload 4, 2) := by decide +kernel
theorem dL_law_672 : decode cL_law 672 = .ok (.iconst 2, 1) := by decide +kernel
theorem dL_law_673 : decode cL_law 673 = .ok (.iadd, 1) := by decide +kernel
theorem dL_law_674 : decode cL_law 674 = .ok (.iaload, 1) := by decide +kernel
theorem dL_law_675 : decode cL_law 675 = .ok (.aload_n 3, 1) := by decide +kernel
theorem dL_law_676 : decode cL_law 676 = .ok (.invokestatic 110, 3) := by decide +kernel
theorem dL_law_679 : decode cL_law 679 = .ok (.istore 5, 2) := by decide +kernel
theorem dL_law_681 : decode cL_law 681 = .ok (.aload_n 2, 1) := by decide +kernel
theorem dL_law_682 : decode cL_law 682 = .ok (.aload_n 0, 1) := by decide +kernel
theorem dL_law_683 : decode cL_law 683 = .ok (.iload 4, 2) := by decide +kernel
theorem dL_law_685 : decode cL_law 685 = .ok (.iconst 1, 1) := by decide +kernel
theorem dL_law_686 : decode cL_law 686 = .ok (.iadd, 1) := by decide +kernel
theorem dL_law_687 : decode cL_law 687 = .ok (.iaload, 1) := by decide +kernel
theorem dL_law_688 : decode cL_law 688 = .ok (.aload_n 0, 1) := by decide +kernel
theorem dL_law_689 : decode cL_law 689 = .ok (.iload 4, 2) := by decide +kernel
theorem dL_law_691 : decode cL_law 691 = .ok (.iconst 2, 1) := by decide +kernel
theorem dL_law_692 : decode cL_law 692 = .ok (.iadd, 1) := by decide +kernel
theorem dL_law_693 : decode cL_law 693 = .ok (.iaload, 1) := by decide +kernel
theorem dL_law_694 : decode cL_law 694 = .ok (.invokevirtual 112, 3) := by decide +kernel
theorem dL_law_697 : decode cL_law 697 = .ok (.istore 6, 2) := by decide +kernel
theorem dL_law_699 : decode cL_law 699 = .ok (.aload_n 2, 1) := by decide +kernel
theorem dL_law_700 : decode cL_law 700 = .ok (.invokevirtual 85, 3) := by decide +kernel
theorem dL_law_703 : decode cL_law 703 = .ok (.iload 5, 2) := by decide +kernel
theorem dL_law_705 : decode cL_law 705 = .ok (.if_icmp .eq 5, 3) := by decide +kernel
theorem dL_law_708 : decode cL_law 708 = .ok (.iconst 0, 1) := by decide +kernel
theorem dL_law_709 : decode cL_law 709 = .ok (.ireturn, 1) := by decide +kernel
theorem dL_law_710 : decode cL_law 710 = .ok (.iload 5, 2) := by decide +kernel
theorem dL_law_712 : decode cL_law 712 = .ok (.ifCond .ne 15, 3) := by decide +kernel
theorem dL_law_715 : decode cL_law 715 = .ok (.aload_n 3, 1) := by decide +kernel
theorem dL_law_716 : decode cL_law 716 = .ok (.iconst 0, 1) := by decide +kernel
theorem dL_law_717 : decode cL_law 717 = .ok (.laload, 1) := by decide +kernel
theorem dL_law_718 : decode cL_law 718 = .ok (.iload 6, 2) := by decide +kernel
theorem dL_law_720 : decode cL_law 720 = .ok (.i2l, 1) := by decide +kernel
theorem dL_law_721 : decode cL_law 721 = .ok (.lcmp, 1) := by decide +kernel
theorem dL_law_722 : decode cL_law 722 = .ok (.ifCond .eq 5, 3) := by decide +kernel
theorem dL_law_725 : decode cL_law 725 = .ok (.iconst 0, 1) := by decide +kernel
theorem dL_law_726 : decode cL_law 726 = .ok (.ireturn, 1) := by decide +kernel
theorem dL_law_727 : decode cL_law 727 = .ok (.goto 638, 3) := by decide +kernel
theorem dL_law_730 : decode cL_law 730 = .ok (.aload_n 1, 1) := by decide +kernel
theorem dL_law_731 : decode cL_law 731 = .ok (.aload_n 0, 1) := by decide +kernel
theorem dL_law_732 : decode cL_law 732 = .ok (.iload 4, 2) := by decide +kernel
theorem dL_law_734 : decode cL_law 734 = .ok (.iconst 1, 1) := by decide +kernel
theorem dL_law_735 : decode cL_law 735 = .ok (.iadd, 1) := by decide +kernel
theorem dL_law_736 : decode cL_law 736 = .ok (.iaload, 1) := by decide +kernel
theorem dL_law_737 : decode cL_law 737 = .ok (.aload_n 0, 1) := by decide +kernel
theorem dL_law_738 : decode cL_law 738 = .ok (.iload 4, 2) := by decide +kernel
theorem dL_law_740 : decode cL_law 740 = .ok (.iconst 2, 1) := by decide +kernel
theorem dL_law_741 : decode cL_law 741 = .ok (.iadd, 1) := by decide +kernel
theorem dL_law_742 : decode cL_law 742 = .ok (.iaload, 1) := by decide +kernel
theorem dL_law_743 : decode cL_law 743 = .ok (.invokestatic 113, 3) := by decide +kernel
theorem dL_law_746 : decode cL_law 746 = .ok (.istore 5, 2) := by decide +kernel
theorem dL_law_748 : decode cL_law 748 = .ok (.aload_n 2, 1) := by decide +kernel
theorem dL_law_749 : decode cL_law 749 = .ok (.aload_n 0, 1) := by decide +kernel
theorem dL_law_750 : decode cL_law 750 = .ok (.iload 4, 2) := by decide +kernel
theorem dL_law_752 : decode cL_law 752 = .ok (.iconst 1, 1) := by decide +kernel
theorem dL_law_753 : decode cL_law 753 = .ok (.iadd, 1) := by decide +kernel
theorem dL_law_754 : decode cL_law 754 = .ok (.iaload, 1) := by decide +kernel
theorem dL_law_755 : decode cL_law 755 = .ok (.aload_n 0, 1) := by decide +kernel
theorem dL_law_756 : decode cL_law 756 = .ok (.iload 4, 2) := by decide +kernel
theorem dL_law_758 : decode cL_law 758 = .ok (.iconst 2, 1) := by decide +kernel
theorem dL_law_759 : decode cL_law 759 = .ok (.iadd, 1) := by decide +kernel
theorem dL_law_760 : decode cL_law 760 = .ok (.iaload, 1) := by decide +kernel
theorem dL_law_761 : decode cL_law 761 = .ok (.invokevirtual 115, 3) := by decide +kernel
theorem dL_law_764 : decode cL_law 764 = .ok (.aload_n 2, 1) := by decide +kernel
theorem dL_law_765 : decode cL_law 765 = .ok (.invokevirtual 85, 3) := by decide +kernel
theorem dL_law_768 : decode cL_law 768 = .ok (.iload 5, 2) := by decide +kernel
theorem dL_law_770 : decode cL_law 770 = .ok (.if_icmp .eq 5, 3) := by decide +kernel
theorem dL_law_773 : decode cL_law 773 = .ok (.iconst 0, 1) := by decide +kernel
theorem dL_law_774 : decode cL_law 774 = .ok (.ireturn, 1) := by decide +kernel
theorem dL_law_775 : decode cL_law 775 = .ok (.goto 590, 3) := by decide +kernel
theorem dL_law_778 : decode cL_law 778 = .ok (.aload_n 1, 1) := by decide +kernel
theorem dL_law_779 : decode cL_law 779 = .ok (.aload_n 0, 1) := by decide +kernel
theorem dL_law_780 : decode cL_law 780 = .ok (.iload 4, 2) := by decide +kernel
theorem dL_law_782 : decode cL_law 782 = .ok (.iconst 1, 1) := by decide +kernel
theorem dL_law_783 : decode cL_law 783 = .ok (.iadd, 1) := by decide +kernel
theorem dL_law_784 : decode cL_law 784 = .ok (.iaload, 1) := by decide +kernel
theorem dL_law_785 : decode cL_law 785 = .ok (.aload_n 0, 1) := by decide +kernel
theorem dL_law_786 : decode cL_law 786 = .ok (.iload 4, 2) := by decide +kernel
theorem dL_law_788 : decode cL_law 788 = .ok (.iconst 2, 1) := by decide +kernel
theorem dL_law_789 : decode cL_law 789 = .ok (.iadd, 1) := by decide +kernel
theorem dL_law_790 : decode cL_law 790 = .ok (.iaload, 1) := by decide +kernel
theorem dL_law_791 : decode cL_law 791 = .ok (.aload_n 3, 1) := by decide +kernel
theorem dL_law_792 : decode cL_law 792 = .ok (.invokestatic 116, 3) := by decide +kernel
theorem dL_law_795 : decode cL_law 795 = .ok (.istore 5, 2) := by decide +kernel
theorem dL_law_797 : decode cL_law 797 = .ok (.aload_n 2, 1) := by decide +kernel
theorem dL_law_798 : decode cL_law 798 = .ok (.aload_n 0, 1) := by decide +kernel
theorem dL_law_799 : decode cL_law 799 = .ok (.iload 4, 2) := by decide +kernel
theorem dL_law_801 : decode cL_law 801 = .ok (.iconst 1, 1) := by decide +kernel
theorem dL_law_802 : decode cL_law 802 = .ok (.iadd, 1) := by decide +kernel
theorem dL_law_803 : decode cL_law 803 = .ok (.iaload, 1) := by decide +kernel
theorem dL_law_804 : decode cL_law 804 = .ok (.aload_n 0, 1) := by decide +kernel
theorem dL_law_805 : decode cL_law 805 = .ok (.iload 4, 2) := by decide +kernel
theorem dL_law_807 : decode cL_law 807 = .ok (.iconst 2, 1) := by decide +kernel
theorem dL_law_808 : decode cL_law 808 = .ok (.iadd, 1) := by decide +kernel
theorem dL_law_809 : decode cL_law 809 = .ok (.iaload, 1) := by decide +kernel
theorem dL_law_810 : decode cL_law 810 = .ok (.invokevirtual 118, 3) := by decide +kernel
theorem dL_law_813 : decode cL_law 813 = .ok (.istore 6, 2) := by decide +kernel
theorem dL_law_815 : decode cL_law 815 = .ok (.aload_n 2, 1) := by decide +kernel
theorem dL_law_816 : decode cL_law 816 = .ok (.invokevirtual 85, 3) := by decide +kernel
theorem dL_law_819 : decode cL_law 819 = .ok (.iload 5, 2) := by decide +kernel
theorem dL_law_821 : decode cL_law 821 = .ok (.if_icmp .eq 5, 3) := by decide +kernel
theorem dL_law_824 : decode cL_law 824 = .ok (.iconst 0, 1) := by decide +kernel
theorem dL_law_825 : decode cL_law 825 = .ok (.ireturn, 1) := by decide +kernel
theorem dL_law_826 : decode cL_law 826 = .ok (.iload 5, 2) := by decide +kernel
theorem dL_law_828 : decode cL_law 828 = .ok (.ifCond .ne 15, 3) := by decide +kernel
theorem dL_law_831 : decode cL_law 831 = .ok (.aload_n 3, 1) := by decide +kernel
theorem dL_law_832 : decode cL_law 832 = .ok (.iconst 0, 1) := by decide +kernel
theorem dL_law_833 : decode cL_law 833 = .ok (.laload, 1) := by decide +kernel
theorem dL_law_834 : decode cL_law 834 = .ok (.iload 6, 2) := by decide +kernel
theorem dL_law_836 : decode cL_law 836 = .ok (.i2l, 1) := by decide +kernel
theorem dL_law_837 : decode cL_law 837 = .ok (.lcmp, 1) := by decide +kernel
theorem dL_law_838 : decode cL_law 838 = .ok (.ifCond .eq 5, 3) := by decide +kernel
theorem dL_law_841 : decode cL_law 841 = .ok (.iconst 0, 1) := by decide +kernel
theorem dL_law_842 : decode cL_law 842 = .ok (.ireturn, 1) := by decide +kernel
theorem dL_law_843 : decode cL_law 843 = .ok (.goto 522, 3) := by decide +kernel
theorem dL_law_846 : decode cL_law 846 = .ok (.aload_n 1, 1) := by decide +kernel
theorem dL_law_847 : decode cL_law 847 = .ok (.aload_n 0, 1) := by decide +kernel
theorem dL_law_848 : decode cL_law 848 = .ok (.iload 4, 2) := by decide +kernel
theorem dL_law_850 : decode cL_law 850 = .ok (.iconst 1, 1) := by decide +kernel
theorem dL_law_851 : decode cL_law 851 = .ok (.iadd, 1) := by decide +kernel
theorem dL_law_852 : decode cL_law 852 = .ok (.iaload, 1) := by decide +kernel
theorem dL_law_853 : decode cL_law 853 = .ok (.aload_n 0, 1) := by decide +kernel
theorem dL_law_854 : decode cL_law 854 = .ok (.iload 4, 2) := by decide +kernel
theorem dL_law_856 : decode cL_law 856 = .ok (.iconst 2, 1) := by decide +kernel
theorem dL_law_857 : decode cL_law 857 = .ok (.iadd, 1) := by decide +kernel
theorem dL_law_858 : decode cL_law 858 = .ok (.iaload, 1) := by decide +kernel
theorem dL_law_859 : decode cL_law 859 = .ok (.i2l, 1) := by decide +kernel
theorem dL_law_860 : decode cL_law 860 = .ok (.bipush 32, 2) := by decide +kernel
theorem dL_law_862 : decode cL_law 862 = .ok (.lshl, 1) := by decide +kernel
theorem dL_law_863 : decode cL_law 863 = .ok (.aload_n 0, 1) := by decide +kernel
theorem dL_law_864 : decode cL_law 864 = .ok (.iload 4, 2) := by decide +kernel
theorem dL_law_866 : decode cL_law 866 = .ok (.iconst 3, 1) := by decide +kernel
theorem dL_law_867 : decode cL_law 867 = .ok (.iadd, 1) := by decide +kernel
theorem dL_law_868 : decode cL_law 868 = .ok (.iaload, 1) := by decide +kernel
theorem dL_law_869 : decode cL_law 869 = .ok (.i2l, 1) := by decide +kernel
theorem dL_law_870 : decode cL_law 870 = .ok (.ldc2_w 101, 3) := by decide +kernel
theorem dL_law_873 : decode cL_law 873 = .ok (.land, 1) := by decide +kernel
theorem dL_law_874 : decode cL_law 874 = .ok (.lor, 1) := by decide +kernel
theorem dL_law_875 : decode cL_law 875 = .ok (.aload_n 3, 1) := by decide +kernel
theorem dL_law_876 : decode cL_law 876 = .ok (.invokestatic 119, 3) := by decide +kernel
theorem dL_law_879 : decode cL_law 879 = .ok (.istore 5, 2) := by decide +kernel
theorem dL_law_881 : decode cL_law 881 = .ok (.aload_n 2, 1) := by decide +kernel
theorem dL_law_882 : decode cL_law 882 = .ok (.aload_n 0, 1) := by decide +kernel
theorem dL_law_883 : decode cL_law 883 = .ok (.iload 4, 2) := by decide +kernel
theorem dL_law_885 : decode cL_law 885 = .ok (.iconst 1, 1) := by decide +kernel
theorem dL_law_886 : decode cL_law 886 = .ok (.iadd, 1) := by decide +kernel
theorem dL_law_887 : decode cL_law 887 = .ok (.iaload, 1) := by decide +kernel
theorem dL_law_888 : decode cL_law 888 = .ok (.aload_n 0, 1) := by decide +kernel
theorem dL_law_889 : decode cL_law 889 = .ok (.iload 4, 2) := by decide +kernel
theorem dL_law_891 : decode cL_law 891 = .ok (.iconst 2, 1) := by decide +kernel
theorem dL_law_892 : decode cL_law 892 = .ok (.iadd, 1) := by decide +kernel
theorem dL_law_893 : decode cL_law 893 = .ok (.iaload, 1) := by decide +kernel
theorem dL_law_894 : decode cL_law 894 = .ok (.i2l, 1) := by decide +kernel
theorem dL_law_895 : decode cL_law 895 = .ok (.bipush 32, 2) := by decide +kernel
theorem dL_law_897 : decode cL_law 897 = .ok (.lshl, 1) := by decide +kernel
theorem dL_law_898 : decode cL_law 898 = .ok (.aload_n 0, 1) := by decide +kernel
theorem dL_law_899 : decode cL_law 899 = .ok (.iload 4, 2) := by decide +kernel
theorem dL_law_901 : decode cL_law 901 = .ok (.iconst 3, 1) := by decide +kernel
theorem dL_law_902 : decode cL_law 902 = .ok (.iadd, 1) := by decide +kernel
theorem dL_law_903 : decode cL_law 903 = .ok (.iaload, 1) := by decide +kernel
theorem dL_law_904 : decode cL_law 904 = .ok (.i2l, 1) := by decide +kernel
theorem dL_law_905 : decode cL_law 905 = .ok (.ldc2_w 101, 3) := by decide +kernel
theorem dL_law_908 : decode cL_law 908 = .ok (.land, 1) := by decide +kernel
theorem dL_law_909 : decode cL_law 909 = .ok (.lor, 1) := by decide +kernel
theorem dL_law_910 : decode cL_law 910 = .ok (.invokevirtual 122, 3) := by decide +kernel
theorem dL_law_913 : decode cL_law 913 = .ok (.lstore 6, 2) := by decide +kernel
theorem dL_law_915 : decode cL_law 915 = .ok (.aload_n 2, 1) := by decide +kernel
theorem dL_law_916 : decode cL_law 916 = .ok (.invokevirtual 85, 3) := by decide +kernel
theorem dL_law_919 : decode cL_law 919 = .ok (.iload 5, 2) := by decide +kernel
theorem dL_law_921 : decode cL_law 921 = .ok (.if_icmp .eq 5, 3) := by decide +kernel
theorem dL_law_924 : decode cL_law 924 = .ok (.iconst 0, 1) := by decide +kernel
theorem dL_law_925 : decode cL_law 925 = .ok (.ireturn, 1) := by decide +kernel
theorem dL_law_926 : decode cL_law 926 = .ok (.iload 5, 2) := by decide +kernel
theorem dL_law_928 : decode cL_law 928 = .ok (.ifCond .ne 14, 3) := by decide +kernel
theorem dL_law_931 : decode cL_law 931 = .ok (.aload_n 3, 1) := by decide +kernel
theorem dL_law_932 : decode cL_law 932 = .ok (.iconst 0, 1) := by decide +kernel
theorem dL_law_933 : decode cL_law 933 = .ok (.laload, 1) := by decide +kernel
theorem dL_law_934 : decode cL_law 934 = .ok (.lload 6, 2) := by decide +kernel
theorem dL_law_936 : decode cL_law 936 = .ok (.lcmp, 1) := by decide +kernel
theorem dL_law_937 : decode cL_law 937 = .ok (.ifCond .eq 5, 3) := by decide +kernel
theorem dL_law_940 : decode cL_law 940 = .ok (.iconst 0, 1) := by decide +kernel
theorem dL_law_941 : decode cL_law 941 = .ok (.ireturn, 1) := by decide +kernel
theorem dL_law_942 : decode cL_law 942 = .ok (.goto 423, 3) := by decide +kernel
theorem dL_law_945 : decode cL_law 945 = .ok (.aload_n 1, 1) := by decide +kernel
theorem dL_law_946 : decode cL_law 946 = .ok (.invokevirtual 123, 3) := by decide +kernel
theorem dL_law_949 : decode cL_law 949 = .ok (.aload_n 2, 1) := by decide +kernel
theorem dL_law_950 : decode cL_law 950 = .ok (.invokevirtual 127, 3) := by decide +kernel
theorem dL_law_953 : decode cL_law 953 = .ok (.if_icmp .eq 412, 3) := by decide +kernel
theorem dL_law_956 : decode cL_law 956 = .ok (.iconst 0, 1) := by decide +kernel
theorem dL_law_957 : decode cL_law 957 = .ok (.ireturn, 1) := by decide +kernel
theorem dL_law_958 : decode cL_law 958 = .ok (.aload_n 1, 1) := by decide +kernel
theorem dL_law_959 : decode cL_law 959 = .ok (.aload_n 0, 1) := by decide +kernel
theorem dL_law_960 : decode cL_law 960 = .ok (.iload 4, 2) := by decide +kernel
theorem dL_law_962 : decode cL_law 962 = .ok (.iconst 1, 1) := by decide +kernel
theorem dL_law_963 : decode cL_law 963 = .ok (.iadd, 1) := by decide +kernel
theorem dL_law_964 : decode cL_law 964 = .ok (.iaload, 1) := by decide +kernel
theorem dL_law_965 : decode cL_law 965 = .ok (.aload_n 3, 1) := by decide +kernel
theorem dL_law_966 : decode cL_law 966 = .ok (.invokestatic 128, 3) := by decide +kernel
theorem dL_law_969 : decode cL_law 969 = .ok (.istore 5, 2) := by decide +kernel
theorem dL_law_971 : decode cL_law 971 = .ok (.aload_n 2, 1) := by decide +kernel
theorem dL_law_972 : decode cL_law 972 = .ok (.aload_n 0, 1) := by decide +kernel
theorem dL_law_973 : decode cL_law 973 = .ok (.iload 4, 2) := by decide +kernel
theorem dL_law_975 : decode cL_law 975 = .ok (.iconst 1, 1) := by decide +kernel
theorem dL_law_976 : decode cL_law 976 = .ok (.iadd, 1) := by decide +kernel
theorem dL_law_977 : decode cL_law 977 = .ok (.iaload, 1) := by decide +kernel
theorem dL_law_978 : decode cL_law 978 = .ok (.invokevirtual 131, 3) := by decide +kernel
theorem dL_law_981 : decode cL_law 981 = .ok (.istore 6, 2) := by decide +kernel
theorem dL_law_983 : decode cL_law 983 = .ok (.aload_n 2, 1) := by decide +kernel
theorem dL_law_984 : decode cL_law 984 = .ok (.invokevirtual 85, 3) := by decide +kernel
theorem dL_law_987 : decode cL_law 987 = .ok (.iload 5, 2) := by decide +kernel
theorem dL_law_989 : decode cL_law 989 = .ok (.if_icmp .eq 5, 3) := by decide +kernel
theorem dL_law_992 : decode cL_law 992 = .ok (.iconst 0, 1) := by decide +kernel
theorem dL_law_993 : decode cL_law 993 = .ok (.ireturn, 1) := by decide +kernel
theorem dL_law_994 : decode cL_law 994 = .ok (.iload 5, 2) := by decide +kernel
theorem dL_law_996 : decode cL_law 996 = .ok (.ifCond .ne 15, 3) := by decide +kernel
theorem dL_law_999 : decode cL_law 999 = .ok (.aload_n 3, 1) := by decide +kernel
theorem dL_law_1000 : decode cL_law 1000 = .ok (.iconst 0, 1) := by decide +kernel
theorem dL_law_1001 : decode cL_law 1001 = .ok (.laload, 1) := by decide +kernel
theorem dL_law_1002 : decode cL_law 1002 = .ok (.iload 6, 2) := by decide +kernel
theorem dL_law_1004 : decode cL_law 1004 = .ok (.i2l, 1) := by decide +kernel
theorem dL_law_1005 : decode cL_law 1005 = .ok (.lcmp, 1) := by decide +kernel
theorem dL_law_1006 : decode cL_law 1006 = .ok (.ifCond .eq 5, 3) := by decide +kernel
theorem dL_law_1009 : decode cL_law 1009 = .ok (.iconst 0, 1) := by decide +kernel
theorem dL_law_1010 : decode cL_law 1010 = .ok (.ireturn, 1) := by decide +kernel
theorem dL_law_1011 : decode cL_law 1011 = .ok (.goto 354, 3) := by decide +kernel
theorem dL_law_1014 : decode cL_law 1014 = .ok (.aload_n 1, 1) := by decide +kernel
theorem dL_law_1015 : decode cL_law 1015 = .ok (.aload_n 0, 1) := by decide +kernel
theorem dL_law_1016 : decode cL_law 1016 = .ok (.iload 4, 2) := by decide +kernel
theorem dL_law_1018 : decode cL_law 1018 = .ok (.iconst 1, 1) := by decide +kernel
theorem dL_law_1019 : decode cL_law 1019 = .ok (.iadd, 1) := by decide +kernel
theorem dL_law_1020 : decode cL_law 1020 = .ok (.iaload, 1) := by decide +kernel
theorem dL_law_1021 : decode cL_law 1021 = .ok (.aload_n 3, 1) := by decide +kernel
theorem dL_law_1022 : decode cL_law 1022 = .ok (.invokestatic 132, 3) := by decide +kernel
theorem dL_law_1025 : decode cL_law 1025 = .ok (.istore 5, 2) := by decide +kernel
theorem dL_law_1027 : decode cL_law 1027 = .ok (.aload_n 2, 1) := by decide +kernel
theorem dL_law_1028 : decode cL_law 1028 = .ok (.aload_n 0, 1) := by decide +kernel
theorem dL_law_1029 : decode cL_law 1029 = .ok (.iload 4, 2) := by decide +kernel
theorem dL_law_1031 : decode cL_law 1031 = .ok (.iconst 1, 1) := by decide +kernel
theorem dL_law_1032 : decode cL_law 1032 = .ok (.iadd, 1) := by decide +kernel
theorem dL_law_1033 : decode cL_law 1033 = .ok (.iaload, 1) := by decide +kernel
theorem dL_law_1034 : decode cL_law 1034 = .ok (.invokevirtual 134, 3) := by decide +kernel
theorem dL_law_1037 : decode cL_law 1037 = .ok (.lstore 6, 2) := by decide +kernel
theorem dL_law_1039 : decode cL_law 1039 = .ok (.aload_n 2, 1) := by decide +kernel
theorem dL_law_1040 : decode cL_law 1040 = .ok (.invokevirtual 85, 3) := by decide +kernel
theorem dL_law_1043 : decode cL_law 1043 = .ok (.iload 5, 2) := by decide +kernel
theorem dL_law_1045 : decode cL_law 1045 = .ok (.if_icmp .eq 5, 3) := by decide +kernel
theorem dL_law_1048 : decode cL_law 1048 = .ok (.iconst 0, 1) := by decide +kernel
theorem dL_law_1049 : decode cL_law 1049 = .ok (.ireturn, 1) := by decide +kernel
theorem dL_law_1050 : decode cL_law 1050 = .ok (.iload 5, 2) := by decide +kernel
theorem dL_law_1052 : decode cL_law 1052 = .ok (.ifCond .ne 14, 3) := by decide +kernel
theorem dL_law_1055 : decode cL_law 1055 = .ok (.aload_n 3, 1) := by decide +kernel
theorem dL_law_1056 : decode cL_law 1056 = .ok (.iconst 0, 1) := by decide +kernel
theorem dL_law_1057 : decode cL_law 1057 = .ok (.laload, 1) := by decide +kernel
theorem dL_law_1058 : decode cL_law 1058 = .ok (.lload 6, 2) := by decide +kernel
theorem dL_law_1060 : decode cL_law 1060 = .ok (.lcmp, 1) := by decide +kernel
theorem dL_law_1061 : decode cL_law 1061 = .ok (.ifCond .eq 5, 3) := by decide +kernel
theorem dL_law_1064 : decode cL_law 1064 = .ok (.iconst 0, 1) := by decide +kernel
theorem dL_law_1065 : decode cL_law 1065 = .ok (.ireturn, 1) := by decide +kernel
theorem dL_law_1066 : decode cL_law 1066 = .ok (.goto 299, 3) := by decide +kernel
theorem dL_law_1069 : decode cL_law 1069 = .ok (.aload_n 1, 1) := by decide +kernel
theorem dL_law_1070 : decode cL_law 1070 = .ok (.aload_n 0, 1) := by decide +kernel
theorem dL_law_1071 : decode cL_law 1071 = .ok (.iload 4, 2) := by decide +kernel
theorem dL_law_1073 : decode cL_law 1073 = .ok (.iconst 1, 1) := by decide +kernel
theorem dL_law_1074 : decode cL_law 1074 = .ok (.iadd, 1) := by decide +kernel
theorem dL_law_1075 : decode cL_law 1075 = .ok (.iaload, 1) := by decide +kernel
theorem dL_law_1076 : decode cL_law 1076 = .ok (.aload_n 0, 1) := by decide +kernel
theorem dL_law_1077 : decode cL_law 1077 = .ok (.iload 4, 2) := by decide +kernel
theorem dL_law_1079 : decode cL_law 1079 = .ok (.iconst 2, 1) := by decide +kernel
theorem dL_law_1080 : decode cL_law 1080 = .ok (.iadd, 1) := by decide +kernel
theorem dL_law_1081 : decode cL_law 1081 = .ok (.iaload, 1) := by decide +kernel
theorem dL_law_1082 : decode cL_law 1082 = .ok (.aload_n 3, 1) := by decide +kernel
theorem dL_law_1083 : decode cL_law 1083 = .ok (.invokestatic 135, 3) := by decide +kernel
theorem dL_law_1086 : decode cL_law 1086 = .ok (.istore 5, 2) := by decide +kernel
theorem dL_law_1088 : decode cL_law 1088 = .ok (.aload_n 2, 1) := by decide +kernel
theorem dL_law_1089 : decode cL_law 1089 = .ok (.aload_n 0, 1) := by decide +kernel
theorem dL_law_1090 : decode cL_law 1090 = .ok (.iload 4, 2) := by decide +kernel
theorem dL_law_1092 : decode cL_law 1092 = .ok (.iconst 1, 1) := by decide +kernel
theorem dL_law_1093 : decode cL_law 1093 = .ok (.iadd, 1) := by decide +kernel
theorem dL_law_1094 : decode cL_law 1094 = .ok (.iaload, 1) := by decide +kernel
theorem dL_law_1095 : decode cL_law 1095 = .ok (.aload_n 0, 1) := by decide +kernel
theorem dL_law_1096 : decode cL_law 1096 = .ok (.iload 4, 2) := by decide +kernel
theorem dL_law_1098 : decode cL_law 1098 = .ok (.iconst 2, 1) := by decide +kernel
theorem dL_law_1099 : decode cL_law 1099 = .ok (.iadd, 1) := by decide +kernel
theorem dL_law_1100 : decode cL_law 1100 = .ok (.iaload, 1) := by decide +kernel
theorem dL_law_1101 : decode cL_law 1101 = .ok (.invokevirtual 137, 3) := by decide +kernel
theorem dL_law_1104 : decode cL_law 1104 = .ok (.lstore 6, 2) := by decide +kernel
theorem dL_law_1106 : decode cL_law 1106 = .ok (.aload_n 2, 1) := by decide +kernel
theorem dL_law_1107 : decode cL_law 1107 = .ok (.invokevirtual 85, 3) := by decide +kernel
theorem dL_law_1110 : decode cL_law 1110 = .ok (.iload 5, 2) := by decide +kernel
theorem dL_law_1112 : decode cL_law 1112 = .ok (.if_icmp .eq 5, 3) := by decide +kernel
theorem dL_law_1115 : decode cL_law 1115 = .ok (.iconst 0, 1) := by decide +kernel
theorem dL_law_1116 : decode cL_law 1116 = .ok (.ireturn, 1) := by decide +kernel
theorem dL_law_1117 : decode cL_law 1117 = .ok (.iload 5, 2) := by decide +kernel
theorem dL_law_1119 : decode cL_law 1119 = .ok (.ifCond .ne 14, 3) := by decide +kernel
theorem dL_law_1122 : decode cL_law 1122 = .ok (.aload_n 3, 1) := by decide +kernel
theorem dL_law_1123 : decode cL_law 1123 = .ok (.iconst 0, 1) := by decide +kernel
theorem dL_law_1124 : decode cL_law 1124 = .ok (.laload, 1) := by decide +kernel
theorem dL_law_1125 : decode cL_law 1125 = .ok (.lload 6, 2) := by decide +kernel
theorem dL_law_1127 : decode cL_law 1127 = .ok (.lcmp, 1) := by decide +kernel
theorem dL_law_1128 : decode cL_law 1128 = .ok (.ifCond .eq 5, 3) := by decide +kernel
theorem dL_law_1131 : decode cL_law 1131 = .ok (.iconst 0, 1) := by decide +kernel
theorem dL_law_1132 : decode cL_law 1132 = .ok (.ireturn, 1) := by decide +kernel
theorem dL_law_1133 : decode cL_law 1133 = .ok (.goto 232, 3) := by decide +kernel
theorem dL_law_1136 : decode cL_law 1136 = .ok (.aload_n 1, 1) := by decide +kernel
theorem dL_law_1137 : decode cL_law 1137 = .ok (.invokevirtual 138, 3) := by decide +kernel
theorem dL_law_1140 : decode cL_law 1140 = .ok (.aload_n 2, 1) := by decide +kernel
theorem dL_law_1141 : decode cL_law 1141 = .ok (.invokevirtual 141, 3) := by decide +kernel
theorem dL_law_1144 : decode cL_law 1144 = .ok (.if_icmp .eq 221, 3) := by decide +kernel
theorem dL_law_1147 : decode cL_law 1147 = .ok (.iconst 0, 1) := by decide +kernel
theorem dL_law_1148 : decode cL_law 1148 = .ok (.ireturn, 1) := by decide +kernel
theorem dL_law_1149 : decode cL_law 1149 = .ok (.aload_n 1, 1) := by decide +kernel
theorem dL_law_1150 : decode cL_law 1150 = .ok (.aload_n 0, 1) := by decide +kernel
theorem dL_law_1151 : decode cL_law 1151 = .ok (.iload 4, 2) := by decide +kernel
theorem dL_law_1153 : decode cL_law 1153 = .ok (.iconst 1, 1) := by decide +kernel
theorem dL_law_1154 : decode cL_law 1154 = .ok (.iadd, 1) := by decide +kernel
theorem dL_law_1155 : decode cL_law 1155 = .ok (.iaload, 1) := by decide +kernel
theorem dL_law_1156 : decode cL_law 1156 = .ok (.aload_n 0, 1) := by decide +kernel
theorem dL_law_1157 : decode cL_law 1157 = .ok (.iload 4, 2) := by decide +kernel
theorem dL_law_1159 : decode cL_law 1159 = .ok (.iconst 2, 1) := by decide +kernel
theorem dL_law_1160 : decode cL_law 1160 = .ok (.iadd, 1) := by decide +kernel
theorem dL_law_1161 : decode cL_law 1161 = .ok (.iaload, 1) := by decide +kernel
theorem dL_law_1162 : decode cL_law 1162 = .ok (.aload_n 3, 1) := by decide +kernel
theorem dL_law_1163 : decode cL_law 1163 = .ok (.invokestatic 142, 3) := by decide +kernel
theorem dL_law_1166 : decode cL_law 1166 = .ok (.istore 5, 2) := by decide +kernel
theorem dL_law_1168 : decode cL_law 1168 = .ok (.aload_n 2, 1) := by decide +kernel
theorem dL_law_1169 : decode cL_law 1169 = .ok (.aload_n 0, 1) := by decide +kernel
theorem dL_law_1170 : decode cL_law 1170 = .ok (.iload 4, 2) := by decide +kernel
theorem dL_law_1172 : decode cL_law 1172 = .ok (.iconst 1, 1) := by decide +kernel
theorem dL_law_1173 : decode cL_law 1173 = .ok (.iadd, 1) := by decide +kernel
theorem dL_law_1174 : decode cL_law 1174 = .ok (.iaload, 1) := by decide +kernel
theorem dL_law_1175 : decode cL_law 1175 = .ok (.aload_n 0, 1) := by decide +kernel
theorem dL_law_1176 : decode cL_law 1176 = .ok (.iload 4, 2) := by decide +kernel
theorem dL_law_1178 : decode cL_law 1178 = .ok (.iconst 2, 1) := by decide +kernel
theorem dL_law_1179 : decode cL_law 1179 = .ok (.iadd, 1) := by decide +kernel
theorem dL_law_1180 : decode cL_law 1180 = .ok (.iaload, 1) := by decide +kernel
theorem dL_law_1181 : decode cL_law 1181 = .ok (.invokevirtual 144, 3) := by decide +kernel
theorem dL_law_1184 : decode cL_law 1184 = .ok (.istore 6, 2) := by decide +kernel
theorem dL_law_1186 : decode cL_law 1186 = .ok (.aload_n 2, 1) := by decide +kernel
theorem dL_law_1187 : decode cL_law 1187 = .ok (.invokevirtual 85, 3) := by decide +kernel
theorem dL_law_1190 : decode cL_law 1190 = .ok (.iload 5, 2) := by decide +kernel
theorem dL_law_1192 : decode cL_law 1192 = .ok (.if_icmp .eq 5, 3) := by decide +kernel
theorem dL_law_1195 : decode cL_law 1195 = .ok (.iconst 0, 1) := by decide +kernel
theorem dL_law_1196 : decode cL_law 1196 = .ok (.ireturn, 1) := by decide +kernel
theorem dL_law_1197 : decode cL_law 1197 = .ok (.iload 5, 2) := by decide +kernel
theorem dL_law_1199 : decode cL_law 1199 = .ok (.ifCond .ne 15, 3) := by decide +kernel
theorem dL_law_1202 : decode cL_law 1202 = .ok (.aload_n 3, 1) := by decide +kernel
theorem dL_law_1203 : decode cL_law 1203 = .ok (.iconst 0, 1) := by decide +kernel
theorem dL_law_1204 : decode cL_law 1204 = .ok (.laload, 1) := by decide +kernel
theorem dL_law_1205 : decode cL_law 1205 = .ok (.iload 6, 2) := by decide +kernel
theorem dL_law_1207 : decode cL_law 1207 = .ok (.i2l, 1) := by decide +kernel
theorem dL_law_1208 : decode cL_law 1208 = .ok (.lcmp, 1) := by decide +kernel
theorem dL_law_1209 : decode cL_law 1209 = .ok (.ifCond .eq 5, 3) := by decide +kernel
theorem dL_law_1212 : decode cL_law 1212 = .ok (.iconst 0, 1) := by decide +kernel
theorem dL_law_1213 : decode cL_law 1213 = .ok (.ireturn, 1) := by decide +kernel
theorem dL_law_1214 : decode cL_law 1214 = .ok (.goto 151, 3) := by decide +kernel
theorem dL_law_1217 : decode cL_law 1217 = .ok (.aload_n 1, 1) := by decide +kernel
theorem dL_law_1218 : decode cL_law 1218 = .ok (.aload_n 0, 1) := by decide +kernel
theorem dL_law_1219 : decode cL_law 1219 = .ok (.iload 4, 2) := by decide +kernel
theorem dL_law_1221 : decode cL_law 1221 = .ok (.iconst 1, 1) := by decide +kernel
theorem dL_law_1222 : decode cL_law 1222 = .ok (.iadd, 1) := by decide +kernel
theorem dL_law_1223 : decode cL_law 1223 = .ok (.iaload, 1) := by decide +kernel
theorem dL_law_1224 : decode cL_law 1224 = .ok (.aload_n 3, 1) := by decide +kernel
theorem dL_law_1225 : decode cL_law 1225 = .ok (.invokestatic 145, 3) := by decide +kernel
theorem dL_law_1228 : decode cL_law 1228 = .ok (.istore 5, 2) := by decide +kernel
theorem dL_law_1230 : decode cL_law 1230 = .ok (.aload_n 2, 1) := by decide +kernel
theorem dL_law_1231 : decode cL_law 1231 = .ok (.aload_n 0, 1) := by decide +kernel
theorem dL_law_1232 : decode cL_law 1232 = .ok (.iload 4, 2) := by decide +kernel
theorem dL_law_1234 : decode cL_law 1234 = .ok (.iconst 1, 1) := by decide +kernel
theorem dL_law_1235 : decode cL_law 1235 = .ok (.iadd, 1) := by decide +kernel
theorem dL_law_1236 : decode cL_law 1236 = .ok (.iaload, 1) := by decide +kernel
theorem dL_law_1237 : decode cL_law 1237 = .ok (.invokevirtual 147, 3) := by decide +kernel
theorem dL_law_1240 : decode cL_law 1240 = .ok (.lstore 6, 2) := by decide +kernel
theorem dL_law_1242 : decode cL_law 1242 = .ok (.aload_n 2, 1) := by decide +kernel
theorem dL_law_1243 : decode cL_law 1243 = .ok (.invokevirtual 85, 3) := by decide +kernel
theorem dL_law_1246 : decode cL_law 1246 = .ok (.iload 5, 2) := by decide +kernel
theorem dL_law_1248 : decode cL_law 1248 = .ok (.if_icmp .eq 5, 3) := by decide +kernel
theorem dL_law_1251 : decode cL_law 1251 = .ok (.iconst 0, 1) := by decide +kernel
theorem dL_law_1252 : decode cL_law 1252 = .ok (.ireturn, 1) := by decide +kernel
theorem dL_law_1253 : decode cL_law 1253 = .ok (.iload 5, 2) := by decide +kernel
theorem dL_law_1255 : decode cL_law 1255 = .ok (.ifCond .ne 14, 3) := by decide +kernel
theorem dL_law_1258 : decode cL_law 1258 = .ok (.aload_n 3, 1) := by decide +kernel
theorem dL_law_1259 : decode cL_law 1259 = .ok (.iconst 0, 1) := by decide +kernel
theorem dL_law_1260 : decode cL_law 1260 = .ok (.laload, 1) := by decide +kernel
theorem dL_law_1261 : decode cL_law 1261 = .ok (.lload 6, 2) := by decide +kernel
theorem dL_law_1263 : decode cL_law 1263 = .ok (.lcmp, 1) := by decide +kernel
theorem dL_law_1264 : decode cL_law 1264 = .ok (.ifCond .eq 5, 3) := by decide +kernel
theorem dL_law_1267 : decode cL_law 1267 = .ok (.iconst 0, 1) := by decide +kernel
theorem dL_law_1268 : decode cL_law 1268 = .ok (.ireturn, 1) := by decide +kernel
theorem dL_law_1269 : decode cL_law 1269 = .ok (.goto 96, 3) := by decide +kernel
theorem dL_law_1272 : decode cL_law 1272 = .ok (.aload_n 1, 1) := by decide +kernel
theorem dL_law_1273 : decode cL_law 1273 = .ok (.aload_n 0, 1) := by decide +kernel
theorem dL_law_1274 : decode cL_law 1274 = .ok (.iload 4, 2) := by decide +kernel
theorem dL_law_1276 : decode cL_law 1276 = .ok (.iconst 1, 1) := by decide +kernel
theorem dL_law_1277 : decode cL_law 1277 = .ok (.iadd, 1) := by decide +kernel
theorem dL_law_1278 : decode cL_law 1278 = .ok (.iaload, 1) := by decide +kernel
theorem dL_law_1279 : decode cL_law 1279 = .ok (.aload_n 3, 1) := by decide +kernel
theorem dL_law_1280 : decode cL_law 1280 = .ok (.invokestatic 148, 3) := by decide +kernel
theorem dL_law_1283 : decode cL_law 1283 = .ok (.istore 5, 2) := by decide +kernel
theorem dL_law_1285 : decode cL_law 1285 = .ok (.aload_n 2, 1) := by decide +kernel
theorem dL_law_1286 : decode cL_law 1286 = .ok (.aload_n 0, 1) := by decide +kernel
theorem dL_law_1287 : decode cL_law 1287 = .ok (.iload 4, 2) := by decide +kernel
theorem dL_law_1289 : decode cL_law 1289 = .ok (.iconst 1, 1) := by decide +kernel
theorem dL_law_1290 : decode cL_law 1290 = .ok (.iadd, 1) := by decide +kernel
theorem dL_law_1291 : decode cL_law 1291 = .ok (.iaload, 1) := by decide +kernel
theorem dL_law_1292 : decode cL_law 1292 = .ok (.invokevirtual 150, 3) := by decide +kernel
theorem dL_law_1295 : decode cL_law 1295 = .ok (.istore 6, 2) := by decide +kernel
theorem dL_law_1297 : decode cL_law 1297 = .ok (.aload_n 2, 1) := by decide +kernel
theorem dL_law_1298 : decode cL_law 1298 = .ok (.invokevirtual 85, 3) := by decide +kernel
theorem dL_law_1301 : decode cL_law 1301 = .ok (.iload 5, 2) := by decide +kernel
theorem dL_law_1303 : decode cL_law 1303 = .ok (.if_icmp .eq 5, 3) := by decide +kernel
theorem dL_law_1306 : decode cL_law 1306 = .ok (.iconst 0, 1) := by decide +kernel
theorem dL_law_1307 : decode cL_law 1307 = .ok (.ireturn, 1) := by decide +kernel
theorem dL_law_1308 : decode cL_law 1308 = .ok (.iload 5, 2) := by decide +kernel
theorem dL_law_1310 : decode cL_law 1310 = .ok (.ifCond .ne 15, 3) := by decide +kernel
theorem dL_law_1313 : decode cL_law 1313 = .ok (.aload_n 3, 1) := by decide +kernel
theorem dL_law_1314 : decode cL_law 1314 = .ok (.iconst 0, 1) := by decide +kernel
theorem dL_law_1315 : decode cL_law 1315 = .ok (.laload, 1) := by decide +kernel
theorem dL_law_1316 : decode cL_law 1316 = .ok (.iload 6, 2) := by decide +kernel
theorem dL_law_1318 : decode cL_law 1318 = .ok (.i2l, 1) := by decide +kernel
theorem dL_law_1319 : decode cL_law 1319 = .ok (.lcmp, 1) := by decide +kernel
theorem dL_law_1320 : decode cL_law 1320 = .ok (.ifCond .eq 5, 3) := by decide +kernel
theorem dL_law_1323 : decode cL_law 1323 = .ok (.iconst 0, 1) := by decide +kernel
theorem dL_law_1324 : decode cL_law 1324 = .ok (.ireturn, 1) := by decide +kernel
theorem dL_law_1325 : decode cL_law 1325 = .ok (.goto 40, 3) := by decide +kernel
theorem dL_law_1328 : decode cL_law 1328 = .ok (.aload_n 1, 1) := by decide +kernel
theorem dL_law_1329 : decode cL_law 1329 = .ok (.aload_n 0, 1) := by decide +kernel
theorem dL_law_1330 : decode cL_law 1330 = .ok (.iload 4, 2) := by decide +kernel
theorem dL_law_1332 : decode cL_law 1332 = .ok (.iconst 1, 1) := by decide +kernel
theorem dL_law_1333 : decode cL_law 1333 = .ok (.iadd, 1) := by decide +kernel
theorem dL_law_1334 : decode cL_law 1334 = .ok (.iaload, 1) := by decide +kernel
theorem dL_law_1335 : decode cL_law 1335 = .ok (.aload_n 0, 1) := by decide +kernel
theorem dL_law_1336 : decode cL_law 1336 = .ok (.iload 4, 2) := by decide +kernel
theorem dL_law_1338 : decode cL_law 1338 = .ok (.iconst 2, 1) := by decide +kernel
theorem dL_law_1339 : decode cL_law 1339 = .ok (.iadd, 1) := by decide +kernel
theorem dL_law_1340 : decode cL_law 1340 = .ok (.iaload, 1) := by decide +kernel
theorem dL_law_1341 : decode cL_law 1341 = .ok (.invokevirtual 151, 3) := by decide +kernel
theorem dL_law_1344 : decode cL_law 1344 = .ok (.aload_n 2, 1) := by decide +kernel
theorem dL_law_1345 : decode cL_law 1345 = .ok (.aload_n 0, 1) := by decide +kernel
theorem dL_law_1346 : decode cL_law 1346 = .ok (.iload 4, 2) := by decide +kernel
theorem dL_law_1348 : decode cL_law 1348 = .ok (.iconst 1, 1) := by decide +kernel
theorem dL_law_1349 : decode cL_law 1349 = .ok (.iadd, 1) := by decide +kernel
theorem dL_law_1350 : decode cL_law 1350 = .ok (.iaload, 1) := by decide +kernel
theorem dL_law_1351 : decode cL_law 1351 = .ok (.aload_n 0, 1) := by decide +kernel
theorem dL_law_1352 : decode cL_law 1352 = .ok (.iload 4, 2) := by decide +kernel
theorem dL_law_1354 : decode cL_law 1354 = .ok (.iconst 2, 1) := by decide +kernel
theorem dL_law_1355 : decode cL_law 1355 = .ok (.iadd, 1) := by decide +kernel
theorem dL_law_1356 : decode cL_law 1356 = .ok (.iaload, 1) := by decide +kernel
theorem dL_law_1357 : decode cL_law 1357 = .ok (.invokevirtual 155, 3) := by decide +kernel
theorem dL_law_1360 : decode cL_law 1360 = .ok (.if_icmp .eq 5, 3) := by decide +kernel
theorem dL_law_1363 : decode cL_law 1363 = .ok (.iconst 0, 1) := by decide +kernel
theorem dL_law_1364 : decode cL_law 1364 = .ok (.ireturn, 1) := by decide +kernel
theorem dL_law_1365 : decode cL_law 1365 = .ok (.iinc 4 5, 3) := by decide +kernel
theorem dL_law_1368 : decode cL_law 1368 = .ok (.goto (-1345), 3) := by decide +kernel
theorem dL_law_1371 : decode cL_law 1371 = .ok (.iconst 1, 1) := by decide +kernel
theorem dL_law_1372 : decode cL_law 1372 = .ok (.ireturn, 1) := by decide +kernel
end
section
/-! THE ONE WORLD: the cells of the class (0 .. 134), the law's own row (135) and the reference's (136 .. 153), at addresses ad k; what they hold: I (ints), L (longs), by cell and place -/
abbrev MI : Type := Nat → Nat → Int32
abbrev ML : Type := Nat → Nat → Int64
def sI (I : MI) (k j : Nat) (v : Int32) : MI := va_up I k (upd (I k) j v)
def sL (L : ML) (k j : Nat) (v : Int64) : ML := va_up L k (vp_updL (L k) j v)
theorem sI_at (I : MI) (k j : Nat) (v : Int32) (a b : Nat) : sI I k j v a b = if a = k ∧ b = j then v else I a b := by
  unfold sI va_up upd
  by_cases h : a = k
  · subst h
    by_cases h2 : b = j <;> simp [h2]
  · simp [h]
theorem sL_at (L : ML) (k j : Nat) (v : Int64) (a b : Nat) : sL L k j v a b = if a = k ∧ b = j then v else L a b := by
  unfold sL va_up vp_updL
  by_cases h : a = k
  · subst h
    by_cases h2 : b = j <;> simp [h2]
  · simp [h]
theorem sI_row {I : MI} {k j : Nat} {v : Int32} {a : Nat} (h : a ≠ k) : sI I k j v a = I a := va_up_ne _ _ h
theorem sL_row {L : ML} {k j : Nat} {v : Int64} {a : Nat} (h : a ≠ k) : sL L k j v a = L a := va_up_ne _ _ h
theorem sI_eq {I : MI} {k j : Nat} {v : Int32} : sI I k j v k j = v := by rw [sI_at]; simp
theorem sL_eq {L : ML} {k j : Nat} {v : Int64} : sL L k j v k j = v := by rw [sL_at]; simp
theorem sI_ne {I : MI} {k j : Nat} {v : Int32} {a b : Nat} (h : b ≠ j) : sI I k j v a b = I a b := by rw [sI_at]; simp [h]
theorem sL_ne {L : ML} {k j : Nat} {v : Int64} {a b : Nat} (h : b ≠ j) : sL L k j v a b = L a b := by rw [sL_at]; simp [h]
abbrev eL (cy : Nat → ClassId) (n : Nat) (g : Nat → Int64) : va_E := .inl (cy 0, n, .inr (.inl g))
abbrev eI (cy : Nat → ClassId) (n : Nat) (f : Nat → Int32) : va_E := .inl (cy 1, n, .inl f)
abbrev eZ (cy : Nat → ClassId) (n : Nat) (f : Nat → Int32) : va_E := .inl (cy 2, n, .inl f)
abbrev eR (cy : Nat → ClassId) (ad : Nat → Nat) (c n b st : Nat) : va_E := .inl (cy c, n, .inr (.inr (.inr (.inr (fun j => if j < n then some (ad (b + st * j)) else none)))))
abbrev fsB (ad : Nat → Nat) (f : Nat → Int32) (_ : Nat → Int64) : List Value := [.ref (ad 1), .ref (ad 2), .ref (ad 3), .int (f 3), .ref (ad 4), .ref (ad 5), .int (f 6), .ref (ad 6), .ref (ad 7)]
abbrev fsQ (f : Nat → Int32) (g : Nat → Int64) : List Value := [.int (f 0), .int (f 1), .long (g 2)]
abbrev fsE (f : Nat → Int32) (g : Nat → Int64) : List Value := [.int (f 0), .long (g 1), .int (f 2), .int (f 3), .int (f 4), .int (f 5)]
abbrev fsP (ad : Nat → Nat) (p : Nat) (f : Nat → Int32) (_ : Nat → Int64) : List Value := [.ref (ad (96 + 4 * p)), .ref (ad (97 + 4 * p)), .int (f 2), .int (f 3), .ref (ad (98 + 4 * p))]
abbrev fsM (ad : Nat → Nat) (f : Nat → Int32) (_ : Nat → Int64) : List Value := [.int (f 0), .ref (ad 137), .ref (ad 138), .int (f 3), .ref (ad 139), .ref (ad 140), .ref (ad 141), .ref (ad 142), .ref (ad 143), .int (f 9), .ref (ad 144), .ref (ad 145), .ref (ad 146), .ref (ad 147), .ref (ad 148), .ref (ad 149), .ref (ad 150), .ref (ad 151), .ref (ad 152), .ref (ad 153)]
def kct (cy : Nat → ClassId) (ad : Nat → Nat) (k : Nat) (f : Nat → Int32) (g : Nat → Int64) : va_E :=
  if k < 8 then
    (if k = 0 then .inr (3, fsB ad f g) else if k < 3 then eL cy 8 g else if k = 3 then eR cy ad 3 10 95 4 else if k = 4 then eR cy ad 4 6 8 1 else if k = 5 then eR cy ad 5 40 14 1 else if k = 6 then eR cy ad 6 41 54 1 else eL cy 4 g)
  else if k < 14 then .inr (2, fsQ f g)
  else if k < 54 then .inr (0, fsE f g)
  else if k < 95 then eL cy 8 g
  else if k < 135 then (if (k - 95) % 4 = 0 then .inr (1, fsP ad ((k - 95) / 4) f g) else if (k - 95) % 4 = 3 then eZ cy 8 f else eI cy 4 f)
  else if k = 135 then eL cy 1 g
  else if k = 136 then .inr (4, fsM ad f g)
  else if k < 139 then eL cy 8 g
  else if k < 141 then eI cy 10 f
  else if k < 143 then eI cy 40 f
  else if k = 143 then eZ cy 80 f
  else if k = 145 then eL cy 40 g
  else if k < 150 then eI cy 40 f
  else if k < 152 then eI cy 6 f
  else if k = 152 then eL cy 6 g
  else eL cy 4 g
section KD
variable {cy : Nat → ClassId} {ad : Nat → Nat}
theorem kd_Q {q : Nat} (h : q < 6) (f : Nat → Int32) (g : Nat → Int64) : kct cy ad (8 + q) f g = .inr (2, fsQ f g) := by
  unfold kct
  rw [if_neg (show ¬ 8 + q < 8 by omega), if_pos (show 8 + q < 14 by omega)]
theorem kd_E {e : Nat} (h : e < 40) (f : Nat → Int32) (g : Nat → Int64) : kct cy ad (14 + e) f g = .inr (0, fsE f g) := by
  unfold kct
  rw [if_neg (show ¬ 14 + e < 8 by omega), if_neg (show ¬ 14 + e < 14 by omega), if_pos (show 14 + e < 54 by omega)]
theorem kd_T {n : Nat} (h : n < 41) (f : Nat → Int32) (g : Nat → Int64) : kct cy ad (54 + n) f g = eL cy 8 g := by
  unfold kct
  rw [if_neg (show ¬ 54 + n < 8 by omega), if_neg (show ¬ 54 + n < 14 by omega), if_neg (show ¬ 54 + n < 54 by omega), if_pos (show 54 + n < 95 by omega)]
theorem kd_P {p : Nat} (h : p < 10) (f : Nat → Int32) (g : Nat → Int64) : kct cy ad (95 + 4 * p) f g = .inr (1, fsP ad p f g) := by
  unfold kct
  rw [if_neg (show ¬ 95 + 4 * p < 8 by omega), if_neg (show ¬ 95 + 4 * p < 14 by omega), if_neg (show ¬ 95 + 4 * p < 54 by omega), if_neg (show ¬ 95 + 4 * p < 95 by omega), if_pos (show 95 + 4 * p < 135 by omega), if_pos (show (95 + 4 * p - 95) % 4 = 0 by omega), show (95 + 4 * p - 95) / 4 = p by omega]
theorem kd_PA {p : Nat} (h : p < 10) (f : Nat → Int32) (g : Nat → Int64) : kct cy ad (96 + 4 * p) f g = eI cy 4 f := by
  unfold kct
  rw [if_neg (show ¬ 96 + 4 * p < 8 by omega), if_neg (show ¬ 96 + 4 * p < 14 by omega), if_neg (show ¬ 96 + 4 * p < 54 by omega), if_neg (show ¬ 96 + 4 * p < 95 by omega), if_pos (show 96 + 4 * p < 135 by omega), if_neg (show ¬ (96 + 4 * p - 95) % 4 = 0 by omega), if_neg (show ¬ (96 + 4 * p - 95) % 4 = 3 by omega)]
theorem kd_PS {p : Nat} (h : p < 10) (f : Nat → Int32) (g : Nat → Int64) : kct cy ad (97 + 4 * p) f g = eI cy 4 f := by
  unfold kct
  rw [if_neg (show ¬ 97 + 4 * p < 8 by omega), if_neg (show ¬ 97 + 4 * p < 14 by omega), if_neg (show ¬ 97 + 4 * p < 54 by omega), if_neg (show ¬ 97 + 4 * p < 95 by omega), if_pos (show 97 + 4 * p < 135 by omega), if_neg (show ¬ (97 + 4 * p - 95) % 4 = 0 by omega), if_neg (show ¬ (97 + 4 * p - 95) % 4 = 3 by omega)]
theorem kd_PG {p : Nat} (h : p < 10) (f : Nat → Int32) (g : Nat → Int64) : kct cy ad (98 + 4 * p) f g = eZ cy 8 f := by
  unfold kct
  rw [if_neg (show ¬ 98 + 4 * p < 8 by omega), if_neg (show ¬ 98 + 4 * p < 14 by omega), if_neg (show ¬ 98 + 4 * p < 54 by omega), if_neg (show ¬ 98 + 4 * p < 95 by omega), if_pos (show 98 + 4 * p < 135 by omega), if_neg (show ¬ (98 + 4 * p - 95) % 4 = 0 by omega), if_pos (show (98 + 4 * p - 95) % 4 = 3 by omega)]
end KD
def gw (cy : Nat → ClassId) (ad : Nat → Nat) (I : MI) (L : ML) : va_W := (List.range 154).map (fun k => (ad k, kct cy ad k (I k) (L k)))
theorem gw_at (cy : Nat → ClassId) (ad : Nat → Nat) (I : MI) (L : ML) {k : Nat} (h : k < 154) : (gw cy ad I L)[k]? = some (ad k, kct cy ad k (I k) (L k)) := by
  unfold gw
  rw [List.getElem?_map, List.getElem?_range h]
  rfl
theorem gw_lt {cy : Nat → ClassId} {ad : Nat → Nat} {I : MI} {L : ML} {k : Nat} {q : Nat × va_E} (h : (gw cy ad I L)[k]? = some q) : k < 154 ∧ q = (ad k, kct cy ad k (I k) (L k)) := by
  have h1 : k < 154 := by
    have := (List.getElem?_eq_some_iff.mp h).1
    unfold gw at this
    simpa using this
  rw [gw_at _ _ _ _ h1] at h
  exact ⟨h1, (Option.some.inj h).symm⟩
theorem gw_set {cy : Nat → ClassId} {ad : Nat → Nat} {I I' : MI} {L L' : ML} {k : Nat} {e : va_E} (hk : k < 154) (he : kct cy ad k (I' k) (L' k) = e) (hI : ∀ a, a ≠ k → I' a = I a) (hL : ∀ a, a ≠ k → L' a = L a) : (gw cy ad I L).set k (ad k, e) = gw cy ad I' L' := by
  apply List.ext_getElem?
  intro j
  have hlen : k < (gw cy ad I L).length := (List.getElem?_eq_some_iff.mp (gw_at cy ad I L hk)).1
  by_cases hj : j = k
  · subst hj
    rw [List.getElem?_set_self hlen, gw_at _ _ _ _ hk, he]
  · rw [List.getElem?_set_ne (Ne.symm hj)]
    by_cases h : j < 154
    · rw [gw_at _ _ _ _ h, gw_at _ _ _ _ h, hI j hj, hL j hj]
    · rw [List.getElem?_eq_none (by unfold gw; simp; omega), List.getElem?_eq_none (by unfold gw; simp; omega)]
def gP (D : va_G) (cy : Nat → ClassId) (ad : Nat → Nat) (I : MI) (L : ML) (H : Heap) : Prop := va_P D vwCl (gw cy ad I L) H
def gJ (ad : Nat → Nat) : Prop := ∀ i j : Nat, i < 154 → j < 154 → ad i = ad j → i = j
def gD (ad : Nat → Nat) (A : Nat → Prop) : Prop := gJ ad ∧ ∀ k : Nat, k < 154 → A (ad k)
def gA (ad : Nat → Nat) (sz : Nat) : Nat → Prop := fun q => (∃ k : Nat, k < 154 ∧ ad k = q) ∨ sz ≤ q
theorem gD.va {cy : Nat → ClassId} {ad : Nat → Nat} {A : Nat → Prop} (h : gD ad A) (I : MI) (L : ML) : va_D A (gw cy ad I L) := by
  refine ⟨fun i j p q hi hj e => ?_, fun k q hk => ?_⟩
  · obtain ⟨h1, rfl⟩ := gw_lt hi
    obtain ⟨h2, rfl⟩ := gw_lt hj
    exact h.1 i j h1 h2 e
  · obtain ⟨h1, rfl⟩ := gw_lt hk
    exact h.2 k h1
theorem gP.kept {D : va_G} {cy : Nat → ClassId} {ad : Nat → Nat} {I : MI} {L : ML} {H H1 : Heap} (h : gP D cy ad I L H) (hq : ∀ q : Nat, q < H.size → H1[q]? = H[q]?) : gP D cy ad I L H1 :=
  va_P.kept h (fun k q hk => hq q.1 ((h k q hk).lt))
def gty (cy : Nat → ClassId) : List (ClassId × FieldType) := [(cy 0, .long), (cy 1, .int), (cy 2, .boolean), (cy 3, .object "CertifiedBooks$Procedure"), (cy 4, .object "CertifiedBooks$Request"), (cy 5, .object "CertifiedBooks$Entry"), (cy 6, .array .long)]
/-- the words of a throw that warmer tables keep, but that aren't 'good' -/
abbrev xIO : String := "java/lang/IndexOutOfBoundsException"
abbrev xIA : String := "java/lang/IllegalArgumentException"
abbrev xIS : String := "java/lang/IllegalStateException"
abbrev xUO : String := "java/lang/UnsupportedOperationException"
def gEx : List String := [xIO, xIA, xIS, xUO]
def gNX : List Cond := [Cond.declares (Bundle.initS "java/lang/RuntimeException"), Cond.declares (Bundle.initS "java/lang/Exception"), Cond.declares (Bundle.initS "java/lang/Throwable"), Cond.castable xIO xIO, Cond.castable xIA xIA, Cond.castable xIS xIS, Cond.castable xUO xUO]
theorem gcast_warm {E F : String} {s U : State} (hW : s.WarmedH U.vm) (h : va_Nw (.castable E F) s) : va_Nw (.castable E F) U := by
  obtain ⟨c3, c4, hc3, hc4, hasg⟩ := Cond.castable_spec h
  have e3 : U.vm.findClass E = some c3 := by rw [hW.alike.findClass]; exact hc3
  have e4 : U.vm.findClass F = some c4 := by rw [hW.alike.findClass]; exact hc4
  have e5 : U.vm.assignable c3 c4 = true := by rw [hW.alike.assignable]; exact hasg
  simp [va_Nw, Cond.before, Cond.holds, Cond.value, e3, e4, e5]
theorem gNX_warm {s U : State} (hW : s.WarmedH U.vm) : ∀ w ∈ gNX, va_Nw w s → va_Nw w U :=
  List.forall_mem_cons.mpr ⟨va_Nw.warmD hW, List.forall_mem_cons.mpr ⟨va_Nw.warmD hW, List.forall_mem_cons.mpr ⟨va_Nw.warmD hW, List.forall_mem_cons.mpr ⟨gcast_warm hW, List.forall_mem_cons.mpr ⟨gcast_warm hW, List.forall_mem_cons.mpr ⟨gcast_warm hW, List.forall_mem_cons.mpr ⟨gcast_warm hW, fun _ h => absurd h List.not_mem_nil⟩⟩⟩⟩⟩⟩⟩
theorem gNX_on : ∀ w ∈ gNX, w.onTables = true := by decide
theorem gNX_in : ∀ w ∈ gNX, w ∈ lw_tbl := by decide +kernel
/-- what a method may take from the start's tables that isn't a good word -/
def gE (A : Nat → Prop) (U : State) (H : Heap) : Prop :=
  vx_Zq Bundle.tN "UNASSIGNED_STACK" Bundle.steD A U H ∧ vx_Zq Bundle.tN "SUPPRESSED_SENTINEL" Bundle.listD A U H ∧ (∀ w ∈ gNW, va_Nw w U) ∧ (∀ q ∈ gST, ∃ sa : Nat, vk_R RX3 q.1 q.2 sa U) ∧ (∀ w ∈ gNX, va_Nw w U) ∧ ∀ E ∈ gEx, ∀ F ∈ gEx, E ≠ F → va_Nc E F U
theorem gE.warm {A : Nat → Prop} {s U : State} {H : Heap} (h : gE A s H) (hW : s.WarmedH U.vm) : gE A U H :=
  ⟨vx_Zq.moved hW.alike h.1, vx_Zq.moved hW.alike h.2.1, fun w hw => gNW_warm hW w hw (h.2.2.1 w hw), fun q hq => (h.2.2.2.1 q hq).imp fun _ z => vk_R.warm hW z, fun w hw => gNX_warm hW w hw (h.2.2.2.2.1 w hw), fun E hE F hF hne => va_Nc.moved hW.alike (h.2.2.2.2.2 E hE F hF hne)⟩
theorem gE.kept {A : Nat → Prop} {U : State} {H H1 : Heap} (h : gE A U H) (hq : ∀ a : Nat, a < H.size → ¬ A a → H1[a]? = H[a]?) : gE A U H1 :=
  ⟨vx_Zq.kept h.1 hq, vx_Zq.kept h.2.1 hq, h.2.2⟩
theorem gE.narrow {A B : Nat → Prop} {U : State} {H : Heap} (h : gE A U H) (hAB : ∀ q, B q → A q) : gE B U H :=
  ⟨vx_Zq.narrow h.1 hAB, vx_Zq.narrow h.2.1 hAB, h.2.2⟩
/-- what stands throughout a method's body -/
def gC (p : Program) (s : State) (m : MethodId) (args : Array Value) (meth : Method) (c : Code) (cc : ByteArray) (nL : Nat) (own : String) (D : va_G) (cy : Nat → ClassId) (ad : Nat → Nat) (A : Nat → Prop) : Prop :=
  p.tables.exec = Jvm.exec ∧ c.code = cc ∧ c.maxLocals = nL ∧ s.vm.findClass own = some m.cls ∧ (∀ w ∈ WS, w.before args s = true) ∧ meth.locks = false ∧ va_K D vwCl (gty cy) s ∧ gD ad A ∧ (∀ q : Nat, s.heap.size ≤ q → A q) ∧ gE A s s.heap
section CC
variable {p : Program} {s : State} {m : MethodId} {args : Array Value} {meth : Method} {c : Code} {cc : ByteArray} {nL : Nat} {own : String} {D : va_G} {cy : Nat → ClassId} {ad : Nat → Nat} {A : Nat → Prop}
theorem gC.hx (C : gC p s m args meth c cc nL own D cy ad A) : p.tables.exec = Jvm.exec := C.1
theorem gC.hb (C : gC p s m args meth c cc nL own D cy ad A) : c.code = cc := C.2.1
theorem gC.hml (C : gC p s m args meth c cc nL own D cy ad A) : c.maxLocals = nL := C.2.2.1
theorem gC.hown (C : gC p s m args meth c cc nL own D cy ad A) : s.vm.findClass own = some m.cls := C.2.2.2.1
theorem gC.hts (C : gC p s m args meth c cc nL own D cy ad A) : ∀ w ∈ WS, w.before args s = true := C.2.2.2.2.1
theorem gC.hlk (C : gC p s m args meth c cc nL own D cy ad A) : meth.locks = false := C.2.2.2.2.2.1
theorem gC.hK (C : gC p s m args meth c cc nL own D cy ad A) : va_K D vwCl (gty cy) s := C.2.2.2.2.2.2.1
theorem gC.hD (C : gC p s m args meth c cc nL own D cy ad A) : gD ad A := C.2.2.2.2.2.2.2.1
theorem gC.hA (C : gC p s m args meth c cc nL own D cy ad A) : ∀ q : Nat, s.heap.size ≤ q → A q := C.2.2.2.2.2.2.2.2.1
theorem gC.hE (C : gC p s m args meth c cc nL own D cy ad A) : gE A s s.heap := C.2.2.2.2.2.2.2.2.2
theorem gC.sub (C : gC p s m args meth c cc nL own D cy ad A) {H : Heap} {locs : List Loc} (hS : va_S A s.heap H locs) : ∀ q, gA ad H.size q → A q := by
  intro q h
  rcases h with ⟨k, hk, rfl⟩ | h
  · exact C.hD.2 k hk
  · exact C.hA q (Nat.le_trans hS.1 h)
theorem gC.envAt (C : gC p s m args meth c cc nL own D cy ad A) {H : Heap} {locs : List Loc} (hS : va_S A s.heap H locs) {U : State} (hW : s.WarmedH U.vm) : gE (gA ad H.size) U H :=
  ((C.hE.warm hW).kept hS.2.1).narrow (C.sub hS)
end CC
end
section
abbrev gXN : List String := ["java/lang/RuntimeException", "java/lang/Exception"]
theorem gat_65 : ∀ w ∈ (vx_atS RX3 65 xIS gXN).filter goodWord, w ∈ WS := fun w h => mws ((show ∀ w ∈ (vx_atS RX3 65 xIS gXN).filter goodWord, w ∈ lw_tbl by decide +kernel) w h) (List.mem_filter.mp h).2
theorem gan_65 : ∀ w ∈ (vx_atS RX3 65 xIS gXN).filter (fun w => !goodWord w), w ∈ gNX := by decide +kernel
theorem gao_65 : (vx_atS RX3 65 xIS gXN).all vx_ot = true := by decide +kernel
theorem gat_83 : ∀ w ∈ (vx_atS RX3 83 xIA gXN).filter goodWord, w ∈ WS := fun w h => mws ((show ∀ w ∈ (vx_atS RX3 83 xIA gXN).filter goodWord, w ∈ lw_tbl by decide +kernel) w h) (List.mem_filter.mp h).2
theorem gan_83 : ∀ w ∈ (vx_atS RX3 83 xIA gXN).filter (fun w => !goodWord w), w ∈ gNX := by decide +kernel
theorem gao_83 : (vx_atS RX3 83 xIA gXN).all vx_ot = true := by decide +kernel
theorem gat_198 : ∀ w ∈ (vx_atS RX3 198 xIO gXN).filter goodWord, w ∈ WS := fun w h => mws ((show ∀ w ∈ (vx_atS RX3 198 xIO gXN).filter goodWord, w ∈ lw_tbl by decide +kernel) w h) (List.mem_filter.mp h).2
theorem gan_198 : ∀ w ∈ (vx_atS RX3 198 xIO gXN).filter (fun w => !goodWord w), w ∈ gNX := by decide +kernel
theorem gao_198 : (vx_atS RX3 198 xIO gXN).all vx_ot = true := by decide +kernel
theorem gat_112 : ∀ w ∈ (vx_atS RX3 112 xUO gXN).filter goodWord, w ∈ WS := fun w h => mws ((show ∀ w ∈ (vx_atS RX3 112 xUO gXN).filter goodWord, w ∈ lw_tbl by decide +kernel) w h) (List.mem_filter.mp h).2
theorem gan_112 : ∀ w ∈ (vx_atS RX3 112 xUO gXN).filter (fun w => !goodWord w), w ∈ gNX := by decide +kernel
theorem gao_112 : (vx_atS RX3 112 xUO gXN).all vx_ot = true := by decide +kernel
/-! rows over the one world -/
section RW
variable {p : Program} {l : Launch} {e : Env} {R : Room} {s : State} {m : MethodId} {args : Array Value} {below : List Frame} {meth : Method} {c : Code} {H : Heap} {locs : List Loc} {cells slots : Nat} {Q : State → Prop}
variable {cc : ByteArray} {nL : Nat} {own : String} {D : va_G} {cy : Nat → ClassId} {ad : Nat → Nat} {A : Nat → Prop} {I : MI} {L : ML} {pc : Nat} {ls : Array Slot} {rest : List Value}
theorem gw_k {k : Nat} {e0 : va_E} (hk : k < 154) (h : kct cy ad k (I k) (L k) = e0) : (gw cy ad I L)[k]? = some (ad k, e0) := by rw [gw_at _ _ _ _ hk, h]
theorem nI_ix {i : Int32} {j n : Nat} (hi : i = nI j) (hj : j < n) (hn : n ≤ 100) : vp_in i n ∧ i.toNatClampNeg = j := by
  subst hi
  exact ⟨vp_in_nI hj (by omega), nI_clamp (by omega)⟩
theorem g_iald (C : gC p s m args meth c cc nL own D cy ad A) (hP : gP D cy ad I L H) (k n : Nat) (hk : k < 154) (hc : ∀ f g, kct cy ad k f g = eI cy n f) {i : Int32} (j : Nat) (hi : i = nI j) {v : Int32} (hv : I k j = v) (hj : j < n) (hn : n ≤ 100) (hdg : decode cc pc = .ok (.iaload, 1))
    (kk : W p l e R s m args below meth c H locs cells slots Q (F0 m (pc + 1) ls (.int v :: rest))) : W p l e R s m args below meth c H locs cells slots Q (F0 m pc ls (.int i :: .ref (ad k) :: rest)) := by
  subst hv
  obtain ⟨h1, h2⟩ := nI_ix hi hj hn
  refine va_iald (D := D) (cl := vwCl) (f := I k) (n := n) C.hx C.hb C.hK hP k 1 (gw_k hk (hc _ _)) rfl h1 hdg ?_
  rw [h2]
  exact kk
theorem g_zald (C : gC p s m args meth c cc nL own D cy ad A) (hP : gP D cy ad I L H) (k n : Nat) (hk : k < 154) (hc : ∀ f g, kct cy ad k f g = eZ cy n f) {i : Int32} (j : Nat) (hi : i = nI j) {v : Int32} (hv : I k j = v) (hj : j < n) (hn : n ≤ 100) (hdg : decode cc pc = .ok (.baload, 1))
    (kk : W p l e R s m args below meth c H locs cells slots Q (F0 m (pc + 1) ls (.int v :: rest))) : W p l e R s m args below meth c H locs cells slots Q (F0 m pc ls (.int i :: .ref (ad k) :: rest)) := by
  subst hv
  obtain ⟨h1, h2⟩ := nI_ix hi hj hn
  refine va_zald (D := D) (cl := vwCl) (f := I k) (n := n) C.hx C.hb C.hK hP k 2 (gw_k hk (hc _ _)) rfl h1 hdg ?_
  rw [h2]
  exact kk
theorem g_lald (C : gC p s m args meth c cc nL own D cy ad A) (hP : gP D cy ad I L H) (k n : Nat) (hk : k < 154) (hc : ∀ f g, kct cy ad k f g = eL cy n g) {i : Int32} (j : Nat) (hi : i = nI j) {v : Int64} (hv : L k j = v) (hj : j < n) (hn : n ≤ 100) (hdg : decode cc pc = .ok (.laload, 1))
    (kk : W p l e R s m args below meth c H locs cells slots Q (F0 m (pc + 1) ls (.long v :: rest))) : W p l e R s m args below meth c H locs cells slots Q (F0 m pc ls (.int i :: .ref (ad k) :: rest)) := by
  subst hv
  obtain ⟨h1, h2⟩ := nI_ix hi hj hn
  refine va_lald (D := D) (cl := vwCl) (f := L k) (n := n) C.hx C.hb C.hK hP k 0 (gw_k hk (hc _ _)) rfl h1 hdg ?_
  rw [h2]
  exact kk
theorem g_aldP (C : gC p s m args meth c cc nL own D cy ad A) (hP : gP D cy ad I L H) {i : Int32} (j : Nat) (hi : i = nI j) (hj : j < 10) (hdg : decode cc pc = .ok (.aaload, 1))
    (kk : W p l e R s m args below meth c H locs cells slots Q (F0 m (pc + 1) ls (.ref (ad (95 + 4 * j)) :: rest))) : W p l e R s m args below meth c H locs cells slots Q (F0 m pc ls (.int i :: .ref (ad 3) :: rest)) := by
  obtain ⟨h1, h2⟩ := nI_ix hi hj (by omega)
  refine va_aldq (D := D) (cl := vwCl) (C := "CertifiedBooks$Procedure") (f := fun j => if j < 10 then some (ad (95 + 4 * j)) else none) (n := 10) C.hx C.hb C.hK hP 3 3 (gw_k (by omega) rfl) rfl h1 hdg ?_
  rw [h2]
  simp only [if_pos hj, va_rf]
  exact kk
theorem g_aldQ (C : gC p s m args meth c cc nL own D cy ad A) (hP : gP D cy ad I L H) {i : Int32} (j : Nat) (hi : i = nI j) (hj : j < 6) (hdg : decode cc pc = .ok (.aaload, 1))
    (kk : W p l e R s m args below meth c H locs cells slots Q (F0 m (pc + 1) ls (.ref (ad (8 + j)) :: rest))) : W p l e R s m args below meth c H locs cells slots Q (F0 m pc ls (.int i :: .ref (ad 4) :: rest)) := by
  obtain ⟨h1, h2⟩ := nI_ix hi hj (by omega)
  refine va_aldq (D := D) (cl := vwCl) (C := "CertifiedBooks$Request") (f := fun j => if j < 6 then some (ad (8 + 1 * j)) else none) (n := 6) C.hx C.hb C.hK hP 4 4 (gw_k (by omega) rfl) rfl h1 hdg ?_
  rw [h2]
  simp only [if_pos hj, va_rf, Nat.one_mul]
  exact kk
theorem g_aldE (C : gC p s m args meth c cc nL own D cy ad A) (hP : gP D cy ad I L H) {i : Int32} (j : Nat) (hi : i = nI j) (hj : j < 40) (hdg : decode cc pc = .ok (.aaload, 1))
    (kk : W p l e R s m args below meth c H locs cells slots Q (F0 m (pc + 1) ls (.ref (ad (14 + j)) :: rest))) : W p l e R s m args below meth c H locs cells slots Q (F0 m pc ls (.int i :: .ref (ad 5) :: rest)) := by
  obtain ⟨h1, h2⟩ := nI_ix hi hj (by omega)
  refine va_aldq (D := D) (cl := vwCl) (C := "CertifiedBooks$Entry") (f := fun j => if j < 40 then some (ad (14 + 1 * j)) else none) (n := 40) C.hx C.hb C.hK hP 5 5 (gw_k (by omega) rfl) rfl h1 hdg ?_
  rw [h2]
  simp only [if_pos hj, va_rf, Nat.one_mul]
  exact kk
theorem va_aldA {tys : List (ClassId × FieldType)} {cl : List vw_C} {ws : va_W} {a : Nat} (hexec : p.tables.exec = Jvm.exec) (hb : c.code = cc) (hK : va_K D cl tys s) (hP : va_P D cl ws H) (q0 t0 : Nat) {cA : ClassId} {ty : FieldType} {n : Nat} {f : Nat → Option Nat} (ha : ws[q0]? = some (a, .inl (cA, n, .inr (.inr (.inr (.inr f)))))) (ht : tys[t0]? = some (cA, .array ty)) {i : Int32} (hin : vp_in i n) (hdg : decode cc pc = .ok (.aaload, 1))
    (kk : W p l e R s m args below meth c H locs cells slots Q (F0 m (pc + 1) ls (va_rf (f i.toNatClampNeg) :: rest))) : W p l e R s m args below meth c H locs cells slots Q (F0 m pc ls (.int i :: .ref a :: rest)) := by
  have hlt : i.toNatClampNeg < n := Nat.not_le.mp fun q => hin (Or.inr q)
  exact W.aald (v := va_rf (f i.toNatClampNeg)) (ty := .array ty) hexec hb (hP q0 _ ha) ((hK.2 t0 _ ht).1 n (fun j => va_rf (f j))) rfl (fun q => by cases q) (by show ¬ (i < 0 ∨ (arrV _ _ _).slots.size ≤ _); rw [arrV_size]; exact hin) (by show (arrV _ _ _).slots[_]? = _; rw [arrV_read _ _ hlt]) rfl rfl hdg kk
theorem g_aldT (C : gC p s m args meth c cc nL own D cy ad A) (hP : gP D cy ad I L H) {i : Int32} (j : Nat) (hi : i = nI j) (hj : j < 41) (hdg : decode cc pc = .ok (.aaload, 1))
    (kk : W p l e R s m args below meth c H locs cells slots Q (F0 m (pc + 1) ls (.ref (ad (54 + j)) :: rest))) : W p l e R s m args below meth c H locs cells slots Q (F0 m pc ls (.int i :: .ref (ad 6) :: rest)) := by
  obtain ⟨h1, h2⟩ := nI_ix hi hj (by omega)
  refine va_aldA (D := D) (cl := vwCl) (ty := .long) (f := fun j => if j < 41 then some (ad (54 + 1 * j)) else none) (n := 41) C.hx C.hb C.hK hP 6 6 (gw_k (by omega) rfl) rfl h1 hdg ?_
  rw [h2]
  simp only [if_pos hj, va_rf, Nat.one_mul]
  exact kk
theorem g_iast (C : gC p s m args meth c cc nL own D cy ad A) (hP : gP D cy ad I L H) (hS : va_S A s.heap H locs) (k n : Nat) (hk : k < 154) (hc : ∀ f g, kct cy ad k f g = eI cy n f) {i : Int32} {x : Int32} (j : Nat) (hi : i = nI j) (hj : j < n) (hn : n ≤ 100) (hdg : decode cc pc = .ok (.iastore, 1))
    (kk : ∀ (H1 : Heap) (locs1 : List Loc), gP D cy ad (sI I k j x) (L) H1 → va_S A s.heap H1 locs1 → W p l e R s m args below meth c H1 locs1 cells slots Q (F0 m (pc + 1) ls rest)) : W p l e R s m args below meth c H locs cells slots Q (F0 m pc ls (.int x :: .int i :: .ref (ad k) :: rest)) := by
  obtain ⟨h1, h2⟩ := nI_ix hi hj hn
  refine va_iast (D := D) (cl := vwCl) (f := I k) (n := n) C.hx C.hb C.hK hP (C.hD.va I L) hS k 1 (gw_k hk (hc _ _)) rfl h1 hdg (fun H1 locs1 hP1 _ hS1 => kk H1 locs1 ?_ hS1)
  rw [h2, gw_set (I' := sI I k j x) (L' := L) hk (by rw [hc]; simp only [sI, sL, va_up_self]) (fun a h => by first | rfl | exact sI_row h) (fun a h => by first | rfl | exact sL_row h)] at hP1
  exact hP1
theorem g_last (C : gC p s m args meth c cc nL own D cy ad A) (hP : gP D cy ad I L H) (hS : va_S A s.heap H locs) (k n : Nat) (hk : k < 154) (hc : ∀ f g, kct cy ad k f g = eL cy n g) {i : Int32} {x : Int64} (j : Nat) (hi : i = nI j) (hj : j < n) (hn : n ≤ 100) (hdg : decode cc pc = .ok (.lastore, 1))
    (kk : ∀ (H1 : Heap) (locs1 : List Loc), gP D cy ad (I) (sL L k j x) H1 → va_S A s.heap H1 locs1 → W p l e R s m args below meth c H1 locs1 cells slots Q (F0 m (pc + 1) ls rest)) : W p l e R s m args below meth c H locs cells slots Q (F0 m pc ls (.long x :: .int i :: .ref (ad k) :: rest)) := by
  obtain ⟨h1, h2⟩ := nI_ix hi hj hn
  refine va_last (D := D) (cl := vwCl) (f := L k) (n := n) C.hx C.hb C.hK hP (C.hD.va I L) hS k 0 (gw_k hk (hc _ _)) rfl h1 hdg (fun H1 locs1 hP1 _ hS1 => kk H1 locs1 ?_ hS1)
  rw [h2, gw_set (I' := I) (L' := sL L k j x) hk (by rw [hc]; simp only [sI, sL, va_up_self]) (fun a h => by first | rfl | exact sI_row h) (fun a h => by first | rfl | exact sL_row h)] at hP1
  exact hP1
theorem g_zast (C : gC p s m args meth c cc nL own D cy ad A) (hP : gP D cy ad I L H) (hS : va_S A s.heap H locs) (k n : Nat) (hk : k < 154) (hc : ∀ f g, kct cy ad k f g = eZ cy n f) {i : Int32} {x : Int32} (hz : vp_nar .boolean x = x) (j : Nat) (hi : i = nI j) (hj : j < n) (hn : n ≤ 100) (hdg : decode cc pc = .ok (.bastore, 1))
    (kk : ∀ (H1 : Heap) (locs1 : List Loc), gP D cy ad (sI I k j x) L H1 → va_S A s.heap H1 locs1 → W p l e R s m args below meth c H1 locs1 cells slots Q (F0 m (pc + 1) ls rest)) : W p l e R s m args below meth c H locs cells slots Q (F0 m pc ls (.int x :: .int i :: .ref (ad k) :: rest)) := by
  obtain ⟨h1, h2⟩ := nI_ix hi hj hn
  refine va_zast (D := D) (cl := vwCl) (f := I k) (n := n) C.hx C.hb C.hK hP (C.hD.va I L) hS k 2 (gw_k hk (hc _ _)) rfl h1 hdg (fun H1 locs1 hP1 _ hS1 => kk H1 locs1 ?_ hS1)
  rw [h2, hz, gw_set (I' := sI I k j x) (L' := L) hk (by rw [hc]; simp only [sI, va_up_self]) (fun a h => sI_row h) (fun a h => rfl)] at hP1
  exact hP1
theorem g_get (C : gC p s m args meth c cc nL own D cy ad A) (hP : gP D cy ad I L H) {CN : String} {T : u_T} {N ci index : Nat} (k j : Nat) {fs : List Value} {v : Value} (hk : k < 154) (hc : kct cy ad k (I k) (L k) = .inr (ci, fs)) (hcl : vwCl[ci]? = some (CN, T, N)) (hin : ∀ w ∈ u_ws CN T N, w ∈ WS) (hj : j < N) (hl : Cond.fieldLink own index (T j).1 (T j).2.1 (T j).2.2.1 ∈ WS) (hv : fs[j]? = some v) (hdg : decode cc pc = .ok (.getfield index, 3))
    (kk : W p l e R s m args below meth c H locs cells slots Q (F0 m (pc + 3) ls (v :: rest))) : W p l e R s m args below meth c H locs cells slots Q (F0 m pc ls (.ref (ad k) :: rest)) :=
  va_get (D := D) (cl := vwCl) C.hx C.hb C.hts hin C.hown C.hK hP k (gw_k hk hc) hcl j hj (C.hts _ hl) (fun _ h => h) hv hdg kk
theorem g_getN (C : gC p s m args meth c cc nL own D cy ad A) (hP : gP D cy ad I L H) {CN host : String} {T : u_T} {N ci index : Nat} (k j : Nat) {fs : List Value} {v : Value} (hk : k < 154) (hc : kct cy ad k (I k) (L k) = .inr (ci, fs)) (hcl : vwCl[ci]? = some (CN, T, N)) (hin : ∀ w ∈ u_ws CN T N, w ∈ WS) (hj : j < N) (hl : Cond.fieldLinkNest own index (T j).1 (T j).2.1 (T j).2.2.1 host ∈ gNW) (hv : fs[j]? = some v) (hdg : decode cc pc = .ok (.getfield index, 3))
    (kk : W p l e R s m args below meth c H locs cells slots Q (F0 m (pc + 3) ls (v :: rest))) : W p l e R s m args below meth c H locs cells slots Q (F0 m pc ls (.ref (ad k) :: rest)) :=
  va_getN (D := D) (cl := vwCl) C.hx C.hb C.hts hin C.hown C.hK hP k (gw_k hk hc) hcl j hj (va_Nw.use rfl (C.hE.2.2.1 _ hl)) (fun _ h => h) hv hdg kk
theorem g_putI (C : gC p s m args meth c cc nL own D cy ad A) (hP : gP D cy ad I L H) (hS : va_S A s.heap H locs) {CN : String} {T : u_T} {N ci index : Nat} (k j : Nat) {fs : List Value} {x : Int32} (hk : k < 154) (hc : kct cy ad k (I k) (L k) = .inr (ci, fs)) (hcl : vwCl[ci]? = some (CN, T, N)) (hin : ∀ w ∈ u_ws CN T N, w ∈ WS) (ty0 : Nat → FieldType) (hty : ∀ k, k < N → parseFieldDescriptor (T k).2.2.1 = some (ty0 k)) (hnm : ∀ a, a < N → ∀ b, b < N → a ≠ b → (T a).2.1 ≠ (T b).2.1) (hj : j < N) (hl : Cond.fieldLink own index (T j).1 (T j).2.1 (T j).2.2.1 ∈ WS) (hfin : (T j).2.2.2 = false) (h0 : ty0 j = .int) (hlen : j < fs.length) (hset : kct cy ad k ((sI I k j x) k) ((L) k) = .inr (ci, fs.set j (.int x))) (hdg : decode cc pc = .ok (.putfield index, 3))
    (kk : ∀ (H1 : Heap) (locs1 : List Loc), gP D cy ad (sI I k j x) (L) H1 → va_S A s.heap H1 locs1 → W p l e R s m args below meth c H1 locs1 cells slots Q (F0 m (pc + 3) ls rest)) : W p l e R s m args below meth c H locs cells slots Q (F0 m pc ls (.int x :: .ref (ad k) :: rest)) := by
  refine va_put (D := D) (cl := vwCl) (ty := .int) C.hx C.hb C.hts hin ty0 hty hnm C.hown C.hK hP (C.hD.va I L) hS k (gw_k hk hc) hcl j hj (C.hts _ hl) (fun _ h => h) hfin (by rw [hty j hj, h0]) rfl rfl hlen hdg (fun H1 locs1 hP1 _ hS1 => kk H1 locs1 ?_ hS1)
  rw [gw_set (I' := sI I k j x) (L' := L) hk hset (fun a h => by first | rfl | exact sI_row h) (fun a h => by first | rfl | exact sL_row h)] at hP1
  exact hP1
theorem g_putL (C : gC p s m args meth c cc nL own D cy ad A) (hP : gP D cy ad I L H) (hS : va_S A s.heap H locs) {CN : String} {T : u_T} {N ci index : Nat} (k j : Nat) {fs : List Value} {x : Int64} (hk : k < 154) (hc : kct cy ad k (I k) (L k) = .inr (ci, fs)) (hcl : vwCl[ci]? = some (CN, T, N)) (hin : ∀ w ∈ u_ws CN T N, w ∈ WS) (ty0 : Nat → FieldType) (hty : ∀ k, k < N → parseFieldDescriptor (T k).2.2.1 = some (ty0 k)) (hnm : ∀ a, a < N → ∀ b, b < N → a ≠ b → (T a).2.1 ≠ (T b).2.1) (hj : j < N) (hl : Cond.fieldLink own index (T j).1 (T j).2.1 (T j).2.2.1 ∈ WS) (hfin : (T j).2.2.2 = false) (h0 : ty0 j = .long) (hlen : j < fs.length) (hset : kct cy ad k ((I) k) ((sL L k j x) k) = .inr (ci, fs.set j (.long x))) (hdg : decode cc pc = .ok (.putfield index, 3))
    (kk : ∀ (H1 : Heap) (locs1 : List Loc), gP D cy ad (I) (sL L k j x) H1 → va_S A s.heap H1 locs1 → W p l e R s m args below meth c H1 locs1 cells slots Q (F0 m (pc + 3) ls rest)) : W p l e R s m args below meth c H locs cells slots Q (F0 m pc ls (.long x :: .ref (ad k) :: rest)) := by
  refine va_put (D := D) (cl := vwCl) (ty := .long) C.hx C.hb C.hts hin ty0 hty hnm C.hown C.hK hP (C.hD.va I L) hS k (gw_k hk hc) hcl j hj (C.hts _ hl) (fun _ h => h) hfin (by rw [hty j hj, h0]) rfl rfl hlen hdg (fun H1 locs1 hP1 _ hS1 => kk H1 locs1 ?_ hS1)
  rw [gw_set (I' := I) (L' := sL L k j x) hk hset (fun a h => by first | rfl | exact sI_row h) (fun a h => by first | rfl | exact sL_row h)] at hP1
  exact hP1
theorem g_putIN (C : gC p s m args meth c cc nL own D cy ad A) (hP : gP D cy ad I L H) (hS : va_S A s.heap H locs) {CN host : String} {T : u_T} {N ci index : Nat} (k j : Nat) {fs : List Value} {x : Int32} (hk : k < 154) (hc : kct cy ad k (I k) (L k) = .inr (ci, fs)) (hcl : vwCl[ci]? = some (CN, T, N)) (hin : ∀ w ∈ u_ws CN T N, w ∈ WS) (ty0 : Nat → FieldType) (hty : ∀ k, k < N → parseFieldDescriptor (T k).2.2.1 = some (ty0 k)) (hnm : ∀ a, a < N → ∀ b, b < N → a ≠ b → (T a).2.1 ≠ (T b).2.1) (hj : j < N) (hl : Cond.fieldLinkNest own index (T j).1 (T j).2.1 (T j).2.2.1 host ∈ gNW) (hfin : (T j).2.2.2 = false) (h0 : ty0 j = .int) (hlen : j < fs.length) (hset : kct cy ad k ((sI I k j x) k) ((L) k) = .inr (ci, fs.set j (.int x))) (hdg : decode cc pc = .ok (.putfield index, 3))
    (kk : ∀ (H1 : Heap) (locs1 : List Loc), gP D cy ad (sI I k j x) (L) H1 → va_S A s.heap H1 locs1 → W p l e R s m args below meth c H1 locs1 cells slots Q (F0 m (pc + 3) ls rest)) : W p l e R s m args below meth c H locs cells slots Q (F0 m pc ls (.int x :: .ref (ad k) :: rest)) := by
  refine va_putN (D := D) (cl := vwCl) (ty := .int) C.hx C.hb C.hts hin ty0 hty hnm C.hown C.hK hP (C.hD.va I L) hS k (gw_k hk hc) hcl j hj (va_Nw.use rfl (C.hE.2.2.1 _ hl)) (fun _ h => h) hfin (by rw [hty j hj, h0]) rfl rfl hlen hdg (fun H1 locs1 hP1 _ hS1 => kk H1 locs1 ?_ hS1)
  rw [gw_set (I' := sI I k j x) (L' := L) hk hset (fun a h => by first | rfl | exact sI_row h) (fun a h => by first | rfl | exact sL_row h)] at hP1
  exact hP1
theorem g_putLN (C : gC p s m args meth c cc nL own D cy ad A) (hP : gP D cy ad I L H) (hS : va_S A s.heap H locs) {CN host : String} {T : u_T} {N ci index : Nat} (k j : Nat) {fs : List Value} {x : Int64} (hk : k < 154) (hc : kct cy ad k (I k) (L k) = .inr (ci, fs)) (hcl : vwCl[ci]? = some (CN, T, N)) (hin : ∀ w ∈ u_ws CN T N, w ∈ WS) (ty0 : Nat → FieldType) (hty : ∀ k, k < N → parseFieldDescriptor (T k).2.2.1 = some (ty0 k)) (hnm : ∀ a, a < N → ∀ b, b < N → a ≠ b → (T a).2.1 ≠ (T b).2.1) (hj : j < N) (hl : Cond.fieldLinkNest own index (T j).1 (T j).2.1 (T j).2.2.1 host ∈ gNW) (hfin : (T j).2.2.2 = false) (h0 : ty0 j = .long) (hlen : j < fs.length) (hset : kct cy ad k ((I) k) ((sL L k j x) k) = .inr (ci, fs.set j (.long x))) (hdg : decode cc pc = .ok (.putfield index, 3))
    (kk : ∀ (H1 : Heap) (locs1 : List Loc), gP D cy ad (I) (sL L k j x) H1 → va_S A s.heap H1 locs1 → W p l e R s m args below meth c H1 locs1 cells slots Q (F0 m (pc + 3) ls rest)) : W p l e R s m args below meth c H locs cells slots Q (F0 m pc ls (.long x :: .ref (ad k) :: rest)) := by
  refine va_putN (D := D) (cl := vwCl) (ty := .long) C.hx C.hb C.hts hin ty0 hty hnm C.hown C.hK hP (C.hD.va I L) hS k (gw_k hk hc) hcl j hj (va_Nw.use rfl (C.hE.2.2.1 _ hl)) (fun _ h => h) hfin (by rw [hty j hj, h0]) rfl rfl hlen hdg (fun H1 locs1 hP1 _ hS1 => kk H1 locs1 ?_ hS1)
  rw [gw_set (I' := I) (L' := sL L k j x) hk hset (fun a h => by first | rfl | exact sI_row h) (fun a h => by first | rfl | exact sL_row h)] at hP1
  exact hP1
end RW
/-! contracts -/
def gPc (D : va_G) (cy : Nat → ClassId) (ad : Nat → Nat) (as : List Value) (I : MI) (L : ML) (sz : Nat) : Array Value → State → Prop := va_Pc as (fun U => U.heap.size = sz ∧ gP D cy ad I L U.heap ∧ va_K D vwCl (gty cy) U ∧ gE (gA ad sz) U U.heap)
theorem gPc_blind {D : va_G} {cy : Nat → ClassId} {ad : Nat → Nat} {as : List Value} {I : MI} {L : ML} {sz : Nat} : FrameBlind (gPc D cy ad as I L sz) := fun a U g mk h =>
  ⟨h.1, h.2.1, h.2.2.1, va_K.moved (u := U) (U := U.calling g mk a) (Vm.Alike.refl U.vm) h.2.2.2.1, gE.warm (s := U) (U := U.calling g mk a) h.2.2.2.2 (State.WarmedH.refl U)⟩
def gQi (D : va_G) (cy : Nat → ClassId) (ad : Nat → Nat) (A : Nat → Prop) (post : Int32 → MI → ML → Prop) : Array Value → State → Outcome → State → Prop := va_Qi (fun r (u : MI × ML) => post r u.1 u.2) (fun u t => gP D cy ad u.1 u.2 t.heap) A
def gQl (D : va_G) (cy : Nat → ClassId) (ad : Nat → Nat) (A : Nat → Prop) (post : Int64 → MI → ML → Prop) : Array Value → State → Outcome → State → Prop := va_Ql (fun r (u : MI × ML) => post r u.1 u.2) (fun u t => gP D cy ad u.1 u.2 t.heap) A
def gQv (D : va_G) (cy : Nat → ClassId) (ad : Nat → Nat) (A : Nat → Prop) (post : MI → ML → Prop) : Array Value → State → Outcome → State → Prop := va_Qv (fun (u : MI × ML) => post u.1 u.2) (fun u t => gP D cy ad u.1 u.2 t.heap) A
def gXC (D : va_G) (cy : Nat → ClassId) (ad : Nat → Nat) (A : Nat → Prop) (xp : String → MI → ML → Prop) : String → State → State → Prop := vx_X (fun _ : MI × ML => True) (fun E u t => xp E u.1 u.2 ∧ gP D cy ad u.1 u.2 t.heap) A
/-- a method's word of itself and its table words -/
def gF (y : MethodName) (bytes : ByteArray) (maxL : Nat) (ret : Option FieldType) (n : Nat) : Prop := Cond.code y bytes maxL ret ∈ WS ∧ Cond.initialized y.cls ∈ WS ∧ (y.cls ≠ "java/lang/invoke/MethodHandle" ∧ y.cls ≠ "java/lang/invoke/VarHandle") ∧ (parseMethodDescriptor y.desc).map (fun d => d.parameters.length) = some n
theorem gpay {args : Array Value} {s : State} {w0 : Cond} (hts : ∀ w ∈ WS, w.before args s = true) (h0 : w0 ∈ WS) : ∀ w ∈ w0 :: WS, ∀ (a' : Array Value) (U : State), s.WarmedH U.vm → w.before a' U = true :=
  pay_in hts (fun w hw => by
    have h1 : w ∈ WS := (List.mem_cons.mp hw).elim (fun e => e ▸ h0) id
    exact ⟨h1, good_of_word (List.mem_filter.mp h1).2⟩)
def gMi (l : Launch) (D : va_G) (cy : Nat → ClassId) (ad : Nat → Nat) (y : MethodName) (cc : ByteArray) (nL : Nat) (ty : FieldType) (rm : Room) (as : List Value) (I : MI) (L : ML) (post : Int32 → MI → ML → Prop) : Prop :=
  ∀ sz : Nat, Met l y (Cond.code y cc nL (some ty) :: WS) rm (gPc D cy ad as I L sz) (gQi D cy ad (gA ad sz) post) rm.cells rm.slots (gA ad sz)
def gTi (l : Launch) (D : va_G) (cy : Nat → ClassId) (ad : Nat → Nat) (y : MethodName) (cc : ByteArray) (nL : Nat) (ty : FieldType) (rm : Room) (as : List Value) (I : MI) (L : ML) (post : Int32 → MI → ML → Prop) (xp : String → MI → ML → Prop) : Prop :=
  ∀ sz : Nat, vx_Met l y (Cond.code y cc nL (some ty) :: WS) rm (gPc D cy ad as I L sz) (gQi D cy ad (gA ad sz) post) (gXC D cy ad (gA ad sz) xp) rm.cells rm.slots (gA ad sz)
theorem gMi_of {l : Launch} {D : va_G} {cy : Nat → ClassId} {ad : Nat → Nat} {y : MethodName} {cc : ByteArray} {nL : Nat} {ty : FieldType} {rm : Room} {as : List Value} {I : MI} {L : ML} {post : Int32 → MI → ML → Prop} (hJ : gJ ad) (hy : plainName y.cls = true) (hcw : Cond.code y cc nL (some ty) ∈ WS) (hn : (lg_sl as).length ≤ nL)
    (body : ∀ (p : Program) (e : Env) (s : State) (m : MethodId) (below : List Frame) (meth : Method) (c : Code) (A : Nat → Prop) (ls : Array Slot), gC p s m as.toArray meth c cc nL y.cls D cy ad A → meth.sig.returnType = some ty → gP D cy ad I L s.heap → va_S A s.heap s.heap [] → lv_has ls nL (lv_args 0 as) →
      W p l e rm s m as.toArray below meth c s.heap [] 0 0 (MQ below (gQi D cy ad A post) as.toArray s rm.cells rm.slots A) (F0 m 0 ls [])) : gMi l D cy ad y cc nL ty rm as I L post := by
  intro sz
  refine Met.ofW (cc := cc) (maxL := nL) (ret := some ty) hy rfl ?_
  intro p e s m args below meth c s₁ B hml hv
  obtain ⟨rfl, hsz, hP, hK, hE⟩ := hv
  subst hsz
  have hts : ∀ w ∈ WS, w.before as.toArray s = true := fun w hw => atoms_spec (ws := Cond.code y cc nL (some ty) :: WS) B.pre w (List.mem_cons_of_mem _ hw)
  have hl := lv_entry as (n := nL) hn
  rw [lg_entry_eq]
  generalize (lg_sl as ++ List.replicate (nL - (lg_sl as).length) Slot.unset).toArray = ls at hl ⊢
  exact body p e s m below meth c (gA ad s.heap.size) ls ⟨B.exec, B.bytes, hml, findClass_of_methodNamed B.named, hts, B.notSynchronized, hK, ⟨hJ, fun k hk => Or.inl ⟨k, hk, rfl⟩⟩, fun q h => Or.inr h, hE⟩ B.returns hP va_S.rf hl
theorem gTi_of {l : Launch} {D : va_G} {cy : Nat → ClassId} {ad : Nat → Nat} {y : MethodName} {cc : ByteArray} {nL : Nat} {ty : FieldType} {rm : Room} {as : List Value} {I : MI} {L : ML} {post : Int32 → MI → ML → Prop} {xp : String → MI → ML → Prop} (hJ : gJ ad) (hy : plainName y.cls = true) (hcw : Cond.code y cc nL (some ty) ∈ WS) (hn : (lg_sl as).length ≤ nL)
    (body : ∀ (p : Program) (e : Env) (s : State) (m : MethodId) (below : List Frame) (meth : Method) (c : Code) (A : Nat → Prop) (ls : Array Slot), gC p s m as.toArray meth c cc nL y.cls D cy ad A → meth.sig.returnType = some ty → (∀ x ∈ c.exceptionTable.toList, False) → gP D cy ad I L s.heap → va_S A s.heap s.heap [] → lv_has ls nL (lv_args 0 as) →
      W p l e rm s m as.toArray below meth c s.heap [] 0 0 (vx_MQ below (gQi D cy ad A post) (gXC D cy ad A xp) as.toArray s rm.cells rm.slots A) (F0 m 0 ls [])) : gTi l D cy ad y cc nL ty rm as I L post xp := by
  intro sz
  refine vx_ofW (cc := cc) (maxL := nL) (ret := some ty) hy rfl ?_
  intro p e s m args below meth c s₁ B hml ht hv
  obtain ⟨rfl, hsz, hP, hK, hE⟩ := hv
  subst hsz
  have hts : ∀ w ∈ WS, w.before as.toArray s = true := fun w hw => atoms_spec (ws := Cond.code y cc nL (some ty) :: WS) B.pre w (List.mem_cons_of_mem _ hw)
  have hl := lv_entry as (n := nL) hn
  rw [lg_entry_eq]
  generalize (lg_sl as ++ List.replicate (nL - (lg_sl as).length) Slot.unset).toArray = ls at hl ⊢
  exact body p e s m below meth c (gA ad s.heap.size) ls ⟨B.exec, B.bytes, hml, findClass_of_methodNamed B.named, hts, B.notSynchronized, hK, ⟨hJ, fun k hk => Or.inl ⟨k, hk, rfl⟩⟩, fun q h => Or.inr h, hE⟩ B.returns ht hP va_S.rf hl
def gMl (l : Launch) (D : va_G) (cy : Nat → ClassId) (ad : Nat → Nat) (y : MethodName) (cc : ByteArray) (nL : Nat) (ty : FieldType) (rm : Room) (as : List Value) (I : MI) (L : ML) (post : Int64 → MI → ML → Prop) : Prop :=
  ∀ sz : Nat, Met l y (Cond.code y cc nL (some ty) :: WS) rm (gPc D cy ad as I L sz) (gQl D cy ad (gA ad sz) post) rm.cells rm.slots (gA ad sz)
def gTl (l : Launch) (D : va_G) (cy : Nat → ClassId) (ad : Nat → Nat) (y : MethodName) (cc : ByteArray) (nL : Nat) (ty : FieldType) (rm : Room) (as : List Value) (I : MI) (L : ML) (post : Int64 → MI → ML → Prop) (xp : String → MI → ML → Prop) : Prop :=
  ∀ sz : Nat, vx_Met l y (Cond.code y cc nL (some ty) :: WS) rm (gPc D cy ad as I L sz) (gQl D cy ad (gA ad sz) post) (gXC D cy ad (gA ad sz) xp) rm.cells rm.slots (gA ad sz)
theorem gMl_of {l : Launch} {D : va_G} {cy : Nat → ClassId} {ad : Nat → Nat} {y : MethodName} {cc : ByteArray} {nL : Nat} {ty : FieldType} {rm : Room} {as : List Value} {I : MI} {L : ML} {post : Int64 → MI → ML → Prop} (hJ : gJ ad) (hy : plainName y.cls = true) (hcw : Cond.code y cc nL (some ty) ∈ WS) (hn : (lg_sl as).length ≤ nL)
    (body : ∀ (p : Program) (e : Env) (s : State) (m : MethodId) (below : List Frame) (meth : Method) (c : Code) (A : Nat → Prop) (ls : Array Slot), gC p s m as.toArray meth c cc nL y.cls D cy ad A → meth.sig.returnType = some ty → gP D cy ad I L s.heap → va_S A s.heap s.heap [] → lv_has ls nL (lv_args 0 as) →
      W p l e rm s m as.toArray below meth c s.heap [] 0 0 (MQ below (gQl D cy ad A post) as.toArray s rm.cells rm.slots A) (F0 m 0 ls [])) : gMl l D cy ad y cc nL ty rm as I L post := by
  intro sz
  refine Met.ofW (cc := cc) (maxL := nL) (ret := some ty) hy rfl ?_
  intro p e s m args below meth c s₁ B hml hv
  obtain ⟨rfl, hsz, hP, hK, hE⟩ := hv
  subst hsz
  have hts : ∀ w ∈ WS, w.before as.toArray s = true := fun w hw => atoms_spec (ws := Cond.code y cc nL (some ty) :: WS) B.pre w (List.mem_cons_of_mem _ hw)
  have hl := lv_entry as (n := nL) hn
  rw [lg_entry_eq]
  generalize (lg_sl as ++ List.replicate (nL - (lg_sl as).length) Slot.unset).toArray = ls at hl ⊢
  exact body p e s m below meth c (gA ad s.heap.size) ls ⟨B.exec, B.bytes, hml, findClass_of_methodNamed B.named, hts, B.notSynchronized, hK, ⟨hJ, fun k hk => Or.inl ⟨k, hk, rfl⟩⟩, fun q h => Or.inr h, hE⟩ B.returns hP va_S.rf hl
theorem gTl_of {l : Launch} {D : va_G} {cy : Nat → ClassId} {ad : Nat → Nat} {y : MethodName} {cc : ByteArray} {nL : Nat} {ty : FieldType} {rm : Room} {as : List Value} {I : MI} {L : ML} {post : Int64 → MI → ML → Prop} {xp : String → MI → ML → Prop} (hJ : gJ ad) (hy : plainName y.cls = true) (hcw : Cond.code y cc nL (some ty) ∈ WS) (hn : (lg_sl as).length ≤ nL)
    (body : ∀ (p : Program) (e : Env) (s : State) (m : MethodId) (below : List Frame) (meth : Method) (c : Code) (A : Nat → Prop) (ls : Array Slot), gC p s m as.toArray meth c cc nL y.cls D cy ad A → meth.sig.returnType = some ty → (∀ x ∈ c.exceptionTable.toList, False) → gP D cy ad I L s.heap → va_S A s.heap s.heap [] → lv_has ls nL (lv_args 0 as) →
      W p l e rm s m as.toArray below meth c s.heap [] 0 0 (vx_MQ below (gQl D cy ad A post) (gXC D cy ad A xp) as.toArray s rm.cells rm.slots A) (F0 m 0 ls [])) : gTl l D cy ad y cc nL ty rm as I L post xp := by
  intro sz
  refine vx_ofW (cc := cc) (maxL := nL) (ret := some ty) hy rfl ?_
  intro p e s m args below meth c s₁ B hml ht hv
  obtain ⟨rfl, hsz, hP, hK, hE⟩ := hv
  subst hsz
  have hts : ∀ w ∈ WS, w.before as.toArray s = true := fun w hw => atoms_spec (ws := Cond.code y cc nL (some ty) :: WS) B.pre w (List.mem_cons_of_mem _ hw)
  have hl := lv_entry as (n := nL) hn
  rw [lg_entry_eq]
  generalize (lg_sl as ++ List.replicate (nL - (lg_sl as).length) Slot.unset).toArray = ls at hl ⊢
  exact body p e s m below meth c (gA ad s.heap.size) ls ⟨B.exec, B.bytes, hml, findClass_of_methodNamed B.named, hts, B.notSynchronized, hK, ⟨hJ, fun k hk => Or.inl ⟨k, hk, rfl⟩⟩, fun q h => Or.inr h, hE⟩ B.returns ht hP va_S.rf hl
def gMv (l : Launch) (D : va_G) (cy : Nat → ClassId) (ad : Nat → Nat) (y : MethodName) (cc : ByteArray) (nL : Nat) (rm : Room) (as : List Value) (I : MI) (L : ML) (post : MI → ML → Prop) : Prop :=
  ∀ sz : Nat, Met l y (Cond.code y cc nL none :: WS) rm (gPc D cy ad as I L sz) (gQv D cy ad (gA ad sz) post) rm.cells rm.slots (gA ad sz)
def gTv (l : Launch) (D : va_G) (cy : Nat → ClassId) (ad : Nat → Nat) (y : MethodName) (cc : ByteArray) (nL : Nat) (rm : Room) (as : List Value) (I : MI) (L : ML) (post : MI → ML → Prop) (xp : String → MI → ML → Prop) : Prop :=
  ∀ sz : Nat, vx_Met l y (Cond.code y cc nL none :: WS) rm (gPc D cy ad as I L sz) (gQv D cy ad (gA ad sz) post) (gXC D cy ad (gA ad sz) xp) rm.cells rm.slots (gA ad sz)
theorem gMv_of {l : Launch} {D : va_G} {cy : Nat → ClassId} {ad : Nat → Nat} {y : MethodName} {cc : ByteArray} {nL : Nat} {rm : Room} {as : List Value} {I : MI} {L : ML} {post : MI → ML → Prop} (hJ : gJ ad) (hy : plainName y.cls = true) (hcw : Cond.code y cc nL (none) ∈ WS) (hn : (lg_sl as).length ≤ nL)
    (body : ∀ (p : Program) (e : Env) (s : State) (m : MethodId) (below : List Frame) (meth : Method) (c : Code) (A : Nat → Prop) (ls : Array Slot), gC p s m as.toArray meth c cc nL y.cls D cy ad A → meth.sig.returnType = none → gP D cy ad I L s.heap → va_S A s.heap s.heap [] → lv_has ls nL (lv_args 0 as) →
      W p l e rm s m as.toArray below meth c s.heap [] 0 0 (MQ below (gQv D cy ad A post) as.toArray s rm.cells rm.slots A) (F0 m 0 ls [])) : gMv l D cy ad y cc nL rm as I L post := by
  intro sz
  refine Met.ofW (cc := cc) (maxL := nL) (ret := none) hy rfl ?_
  intro p e s m args below meth c s₁ B hml hv
  obtain ⟨rfl, hsz, hP, hK, hE⟩ := hv
  subst hsz
  have hts : ∀ w ∈ WS, w.before as.toArray s = true := fun w hw => atoms_spec (ws := Cond.code y cc nL (none) :: WS) B.pre w (List.mem_cons_of_mem _ hw)
  have hl := lv_entry as (n := nL) hn
  rw [lg_entry_eq]
  generalize (lg_sl as ++ List.replicate (nL - (lg_sl as).length) Slot.unset).toArray = ls at hl ⊢
  exact body p e s m below meth c (gA ad s.heap.size) ls ⟨B.exec, B.bytes, hml, findClass_of_methodNamed B.named, hts, B.notSynchronized, hK, ⟨hJ, fun k hk => Or.inl ⟨k, hk, rfl⟩⟩, fun q h => Or.inr h, hE⟩ B.returns hP va_S.rf hl
theorem gTv_of {l : Launch} {D : va_G} {cy : Nat → ClassId} {ad : Nat → Nat} {y : MethodName} {cc : ByteArray} {nL : Nat} {rm : Room} {as : List Value} {I : MI} {L : ML} {post : MI → ML → Prop} {xp : String → MI → ML → Prop} (hJ : gJ ad) (hy : plainName y.cls = true) (hcw : Cond.code y cc nL (none) ∈ WS) (hn : (lg_sl as).length ≤ nL)
    (body : ∀ (p : Program) (e : Env) (s : State) (m : MethodId) (below : List Frame) (meth : Method) (c : Code) (A : Nat → Prop) (ls : Array Slot), gC p s m as.toArray meth c cc nL y.cls D cy ad A → meth.sig.returnType = none → (∀ x ∈ c.exceptionTable.toList, False) → gP D cy ad I L s.heap → va_S A s.heap s.heap [] → lv_has ls nL (lv_args 0 as) →
      W p l e rm s m as.toArray below meth c s.heap [] 0 0 (vx_MQ below (gQv D cy ad A post) (gXC D cy ad A xp) as.toArray s rm.cells rm.slots A) (F0 m 0 ls [])) : gTv l D cy ad y cc nL rm as I L post xp := by
  intro sz
  refine vx_ofW (cc := cc) (maxL := nL) (ret := none) hy rfl ?_
  intro p e s m args below meth c s₁ B hml ht hv
  obtain ⟨rfl, hsz, hP, hK, hE⟩ := hv
  subst hsz
  have hts : ∀ w ∈ WS, w.before as.toArray s = true := fun w hw => atoms_spec (ws := Cond.code y cc nL (none) :: WS) B.pre w (List.mem_cons_of_mem _ hw)
  have hl := lv_entry as (n := nL) hn
  rw [lg_entry_eq]
  generalize (lg_sl as ++ List.replicate (nL - (lg_sl as).length) Slot.unset).toArray = ls at hl ⊢
  exact body p e s m below meth c (gA ad s.heap.size) ls ⟨B.exec, B.bytes, hml, findClass_of_methodNamed B.named, hts, B.notSynchronized, hK, ⟨hJ, fun k hk => Or.inl ⟨k, hk, rfl⟩⟩, fun q h => Or.inr h, hE⟩ B.returns ht hP va_S.rf hl
section RT
variable {p : Program} {l : Launch} {e : Env} {R : Room} {s : State} {m : MethodId} {args : Array Value} {below : List Frame} {meth : Method} {c : Code} {H : Heap} {locs : List Loc} {cells slots : Nat} {Q : State → Prop}
variable {cc : ByteArray} {nL : Nat} {own : String} {D : va_G} {cy : Nat → ClassId} {ad : Nat → Nat} {A : Nat → Prop} {I : MI} {L : ML} {pc : Nat} {ls : Array Slot} {rest : List Value} {mc ms : Nat} {xp : String → MI → ML → Prop}
theorem gM_iret (C : gC p s m args meth c cc nL own D cy ad A) {post : Int32 → MI → ML → Prop} {v : Int32} (hr : meth.sig.returnType = some .int) (hP : gP D cy ad I L H) (hS : va_S A s.heap H locs) (hc : cells ≤ mc) (hs : slots ≤ ms) (hdg : decode cc pc = .ok (.ireturn, 1)) (hq : post v I L) : W p l e R s m args below meth c H locs cells slots (MQ below (gQi D cy ad A post) args s mc ms A) (F0 m pc ls [.int v]) := by
  refine W.widen hc hs ?_
  skip
  exact W.iret (free := A) C.hx C.hb hr (fun t ht hW => (show gQi D cy ad A post args s (.returned (some (.int v))) t from ⟨⟨v, (I, L), rfl, hq, (show gP D cy ad I L t.heap from by rw [ht]; exact hP)⟩, hS.F ht⟩)) hS.2.2 hdg C.hlk
theorem gT_iret (C : gC p s m args meth c cc nL own D cy ad A) {post : Int32 → MI → ML → Prop} {v : Int32} (hr : meth.sig.returnType = some .int) (hP : gP D cy ad I L H) (hS : va_S A s.heap H locs) (hc : cells ≤ mc) (hs : slots ≤ ms) (hdg : decode cc pc = .ok (.ireturn, 1)) (hq : post v I L) : W p l e R s m args below meth c H locs cells slots (vx_MQ below (gQi D cy ad A post) (gXC D cy ad A xp) args s mc ms A) (F0 m pc ls [.int v]) := by
  refine W.widen hc hs ?_
  refine vx_ret ?_
  exact W.iret (free := A) C.hx C.hb hr (fun t ht hW => (show gQi D cy ad A post args s (.returned (some (.int v))) t from ⟨⟨v, (I, L), rfl, hq, (show gP D cy ad I L t.heap from by rw [ht]; exact hP)⟩, hS.F ht⟩)) hS.2.2 hdg C.hlk
theorem gM_zret (C : gC p s m args meth c cc nL own D cy ad A) {post : Int32 → MI → ML → Prop} {v : Int32} (hr : meth.sig.returnType = some .boolean) (hn : narrow .boolean (.int v) = .int v) (hP : gP D cy ad I L H) (hS : va_S A s.heap H locs) (hc : cells ≤ mc) (hs : slots ≤ ms) (hdg : decode cc pc = .ok (.ireturn, 1)) (hq : post v I L) : W p l e R s m args below meth c H locs cells slots (MQ below (gQi D cy ad A post) args s mc ms A) (F0 m pc ls [.int v]) := by
  refine W.widen hc hs ?_
  skip
  exact W.zret (free := A) C.hx C.hb hr hn (fun t ht hW => (show gQi D cy ad A post args s (.returned (some (.int v))) t from ⟨⟨v, (I, L), rfl, hq, (show gP D cy ad I L t.heap from by rw [ht]; exact hP)⟩, hS.F ht⟩)) hS.2.2 hdg C.hlk
theorem gT_zret (C : gC p s m args meth c cc nL own D cy ad A) {post : Int32 → MI → ML → Prop} {v : Int32} (hr : meth.sig.returnType = some .boolean) (hn : narrow .boolean (.int v) = .int v) (hP : gP D cy ad I L H) (hS : va_S A s.heap H locs) (hc : cells ≤ mc) (hs : slots ≤ ms) (hdg : decode cc pc = .ok (.ireturn, 1)) (hq : post v I L) : W p l e R s m args below meth c H locs cells slots (vx_MQ below (gQi D cy ad A post) (gXC D cy ad A xp) args s mc ms A) (F0 m pc ls [.int v]) := by
  refine W.widen hc hs ?_
  refine vx_ret ?_
  exact W.zret (free := A) C.hx C.hb hr hn (fun t ht hW => (show gQi D cy ad A post args s (.returned (some (.int v))) t from ⟨⟨v, (I, L), rfl, hq, (show gP D cy ad I L t.heap from by rw [ht]; exact hP)⟩, hS.F ht⟩)) hS.2.2 hdg C.hlk
theorem gM_lret (C : gC p s m args meth c cc nL own D cy ad A) {post : Int64 → MI → ML → Prop} {v : Int64} (hr : meth.sig.returnType = some .long) (hP : gP D cy ad I L H) (hS : va_S A s.heap H locs) (hc : cells ≤ mc) (hs : slots ≤ ms) (hdg : decode cc pc = .ok (.lreturn, 1)) (hq : post v I L) : W p l e R s m args below meth c H locs cells slots (MQ below (gQl D cy ad A post) args s mc ms A) (F0 m pc ls [.long v]) := by
  refine W.widen hc hs ?_
  skip
  exact W.lret (free := A) C.hx C.hb hr (fun t ht hW => (show gQl D cy ad A post args s (.returned (some (.long v))) t from ⟨⟨v, (I, L), rfl, hq, (show gP D cy ad I L t.heap from by rw [ht]; exact hP)⟩, hS.F ht⟩)) hS.2.2 hdg C.hlk
theorem gT_lret (C : gC p s m args meth c cc nL own D cy ad A) {post : Int64 → MI → ML → Prop} {v : Int64} (hr : meth.sig.returnType = some .long) (hP : gP D cy ad I L H) (hS : va_S A s.heap H locs) (hc : cells ≤ mc) (hs : slots ≤ ms) (hdg : decode cc pc = .ok (.lreturn, 1)) (hq : post v I L) : W p l e R s m args below meth c H locs cells slots (vx_MQ below (gQl D cy ad A post) (gXC D cy ad A xp) args s mc ms A) (F0 m pc ls [.long v]) := by
  refine W.widen hc hs ?_
  refine vx_ret ?_
  exact W.lret (free := A) C.hx C.hb hr (fun t ht hW => (show gQl D cy ad A post args s (.returned (some (.long v))) t from ⟨⟨v, (I, L), rfl, hq, (show gP D cy ad I L t.heap from by rw [ht]; exact hP)⟩, hS.F ht⟩)) hS.2.2 hdg C.hlk
theorem gM_vret (C : gC p s m args meth c cc nL own D cy ad A) {post : MI → ML → Prop} (hr : meth.sig.returnType = none) (hP : gP D cy ad I L H) (hS : va_S A s.heap H locs) (hc : cells ≤ mc) (hs : slots ≤ ms) (hdg : decode cc pc = .ok (.return_, 1)) (hq : post I L) : W p l e R s m args below meth c H locs cells slots (MQ below (gQv D cy ad A post) args s mc ms A) (F0 m pc ls []) := by
  refine W.widen hc hs ?_
  skip
  exact W.vret (free := A) C.hx C.hb hr (fun t ht hW => (show gQv D cy ad A post args s (.returned none) t from ⟨⟨(I, L), rfl, hq, (show gP D cy ad I L t.heap from by rw [ht]; exact hP)⟩, hS.F ht⟩)) hS.2.2 hdg C.hlk
theorem gT_vret (C : gC p s m args meth c cc nL own D cy ad A) {post : MI → ML → Prop} (hr : meth.sig.returnType = none) (hP : gP D cy ad I L H) (hS : va_S A s.heap H locs) (hc : cells ≤ mc) (hs : slots ≤ ms) (hdg : decode cc pc = .ok (.return_, 1)) (hq : post I L) : W p l e R s m args below meth c H locs cells slots (vx_MQ below (gQv D cy ad A post) (gXC D cy ad A xp) args s mc ms A) (F0 m pc ls []) := by
  refine W.widen hc hs ?_
  refine vx_ret ?_
  exact W.vret (free := A) C.hx C.hb hr (fun t ht hW => (show gQv D cy ad A post args s (.returned none) t from ⟨⟨(I, L), rfl, hq, (show gP D cy ad I L t.heap from by rw [ht]; exact hP)⟩, hS.F ht⟩)) hS.2.2 hdg C.hlk
theorem gM_callVi (C : gC p s m args meth c cc nL own D cy ad A) (hP : gP D cy ad I L H) (hS : va_S A s.heap H locs) (hls : ls.size = nL) {y : MethodName} {bytes : ByteArray} {maxL index n : Nat} {ty : FieldType} {rm : Room} {b : Nat} {As : List Value} {post : Int32 → MI → ML → Prop} (hM : gMi l D cy ad y bytes maxL ty rm (.ref (ad b) :: As) I L post) (hF : gF y bytes maxL (some ty) n) (hlk : Cond.methodLink own index y ∈ WS) (hin : Cond.instanceMethod y ∈ WS) (hse : Cond.selects y.cls y y ∈ WS) (hbk : b < 154) {ci : Nat} {fs : List Value} {T : u_T} {N : Nat} (hbc : kct cy ad b (I b) (L b) = .inr (ci, fs)) (hcl : vwCl[ci]? = some (y.cls, T, N)) (hn : As.length = n) (hR : rm.frames + 1 ≤ R.frames ∧ 8 + (maxL + 11) + rm.locals ≤ R.locals) (hcat : (rest.map fun v => v.category).sum ≤ 8) (hf : cells + rm.cells ≤ R.cells ∧ slots + rm.slots ≤ R.slots) (hdg : decode cc pc = .ok (.invokevirtual index, 3)) {st0 : List Value} (hst0 : st0 = (As.reverse ++ .ref (ad b) :: rest))
    (kk : ∀ (r : Int32) (I1 : MI) (L1 : ML) (H1 : Heap) (locs1 : List Loc), post r I1 L1 → gP D cy ad I1 L1 H1 → va_S A s.heap H1 locs1 → W p l e R s m args below meth c H1 locs1 (cells + rm.cells) (slots + rm.slots) Q (F0 m (pc + 3) ls (.int r :: rest))) : W p l e R s m args below meth c H locs cells slots Q (F0 m pc ls st0) := by
  subst hst0
  exact va_calli (va_runV (As := As) (rest := rest) ⟨C.hx, C.hb, C.hml, C.hown, C.hts⟩ (hM H.size) ⟨⟨rfl, rfl, hR.1, hR.2, gpay C.hts hF.1, List.mem_cons_self, C.hts _ hF.1, C.hts _ hF.2.1, hF.2.2.1, fun sig h => by have h2 := hF.2.2.2; rw [h] at h2; exact (Option.some.inj h2).symm, C.hts _ hlk⟩, C.hts _ hin, C.hts _ hse⟩ ⟨gPc_blind, va_recv C.hK hP hcl (gw_k hbk hbc), (fun U hU hW => ⟨rfl, by rw [hU], by rw [hU]; exact hP, va_K.moved hW.alike C.hK, by rw [hU]; exact C.envAt hS hW⟩)⟩ rfl hn hls rfl (lv_room hcat) hdg hf) hS (fun q _ h => C.sub hS q h) (fun q h => C.sub hS q h) (fun r u t H1 locs1 ht hvm hw hB hz hk1 hS1 => kk r u.1 u.2 H1 locs1 hw (by rw [← ht]; exact hB) hS1)
theorem gT_callVi (C : gC p s m args meth c cc nL own D cy ad A) (hP : gP D cy ad I L H) (hS : va_S A s.heap H locs) (hls : ls.size = nL) {y : MethodName} {bytes : ByteArray} {maxL index n : Nat} {ty : FieldType} {rm : Room} {b : Nat} {As : List Value} {post : Int32 → MI → ML → Prop} {xp1 : String → MI → ML → Prop} {Qc : Array Value → State → Outcome → State → Prop} (hM : gTi l D cy ad y bytes maxL ty rm (.ref (ad b) :: As) I L post xp1) (hF : gF y bytes maxL (some ty) n) (hlk : Cond.methodLink own index y ∈ WS) (hin : Cond.instanceMethod y ∈ WS) (hse : Cond.selects y.cls y y ∈ WS) (hbk : b < 154) {ci : Nat} {fs : List Value} {T : u_T} {N : Nat} (hbc : kct cy ad b (I b) (L b) = .inr (ci, fs)) (hcl : vwCl[ci]? = some (y.cls, T, N)) (hn : As.length = n) (hR : rm.frames + 1 ≤ R.frames ∧ 8 + (maxL + 11) + rm.locals ≤ R.locals) (hcat : (rest.map fun v => v.category).sum ≤ 8) (hf : cells + rm.cells ≤ R.cells ∧ slots + rm.slots ≤ R.slots) (hout : ∀ x ∈ c.exceptionTable.toList, False) (hxc : cells + rm.cells ≤ mc ∧ slots + rm.slots ≤ ms) (hxp : ∀ (E : String) (I1 : MI) (L1 : ML), xp1 E I1 L1 → xp E I1 L1) (hdg : decode cc pc = .ok (.invokevirtual index, 3)) {st0 : List Value} (hst0 : st0 = (As.reverse ++ .ref (ad b) :: rest))
    (kk : ∀ (r : Int32) (I1 : MI) (L1 : ML) (H1 : Heap) (locs1 : List Loc), post r I1 L1 → gP D cy ad I1 L1 H1 → va_S A s.heap H1 locs1 → W p l e R s m args below meth c H1 locs1 (cells + rm.cells) (slots + rm.slots) (vx_MQ below Qc (gXC D cy ad A xp) args s mc ms A) (F0 m (pc + 3) ls (.int r :: rest))) : W p l e R s m args below meth c H locs cells slots (vx_MQ below Qc (gXC D cy ad A xp) args s mc ms A) (F0 m pc ls st0) := by
  subst hst0
  exact vx_calli (vx_runV (As := As) (rest := rest) ⟨C.hx, C.hb, C.hml, C.hown, C.hts⟩ (hM H.size) ⟨⟨rfl, rfl, hR.1, hR.2, gpay C.hts hF.1, List.mem_cons_self, C.hts _ hF.1, C.hts _ hF.2.1, hF.2.2.1, fun sig h => by have h2 := hF.2.2.2; rw [h] at h2; exact (Option.some.inj h2).symm, C.hts _ hlk⟩, C.hts _ hin, C.hts _ hse⟩ ⟨gPc_blind, va_recv C.hK hP hcl (gw_k hbk hbc), (fun U hU hW => ⟨rfl, by rw [hU], by rw [hU]; exact hP, va_K.moved hW.alike C.hK, by rw [hU]; exact C.envAt hS hW⟩)⟩ rfl hn hls rfl (lv_room hcat) hdg hf) hS (fun q _ h => C.sub hS q h) (fun q h => C.sub hS q h) (fun q _ h => C.sub hS q h) (fun E ce q9 u t H1 locs1 ht hvm hpx hBX hz hk1 hS1 hce hcv hcE => vx_out (fun x hx => (hout x hx).elim) C.hlk hce hcv hcE (fun t2 ht2 hv2 => ⟨u, trivial, ⟨hxp E u.1 u.2 hBX.1, by rw [ht2, ← ht]; exact hBX.2⟩, hS1.F ht2⟩) hS1.2.2 hxc.1 hxc.2) (fun r u t H1 locs1 ht hvm hw hB hz hk1 hS1 => kk r u.1 u.2 H1 locs1 hw (by rw [← ht]; exact hB) hS1)
theorem gM_callVl (C : gC p s m args meth c cc nL own D cy ad A) (hP : gP D cy ad I L H) (hS : va_S A s.heap H locs) (hls : ls.size = nL) {y : MethodName} {bytes : ByteArray} {maxL index n : Nat} {ty : FieldType} {rm : Room} {b : Nat} {As : List Value} {post : Int64 → MI → ML → Prop} (hM : gMl l D cy ad y bytes maxL ty rm (.ref (ad b) :: As) I L post) (hF : gF y bytes maxL (some ty) n) (hlk : Cond.methodLink own index y ∈ WS) (hin : Cond.instanceMethod y ∈ WS) (hse : Cond.selects y.cls y y ∈ WS) (hbk : b < 154) {ci : Nat} {fs : List Value} {T : u_T} {N : Nat} (hbc : kct cy ad b (I b) (L b) = .inr (ci, fs)) (hcl : vwCl[ci]? = some (y.cls, T, N)) (hn : As.length = n) (hR : rm.frames + 1 ≤ R.frames ∧ 8 + (maxL + 11) + rm.locals ≤ R.locals) (hcat : (rest.map fun v => v.category).sum ≤ 8) (hf : cells + rm.cells ≤ R.cells ∧ slots + rm.slots ≤ R.slots) (hdg : decode cc pc = .ok (.invokevirtual index, 3)) {st0 : List Value} (hst0 : st0 = (As.reverse ++ .ref (ad b) :: rest))
    (kk : ∀ (r : Int64) (I1 : MI) (L1 : ML) (H1 : Heap) (locs1 : List Loc), post r I1 L1 → gP D cy ad I1 L1 H1 → va_S A s.heap H1 locs1 → W p l e R s m args below meth c H1 locs1 (cells + rm.cells) (slots + rm.slots) Q (F0 m (pc + 3) ls (.long r :: rest))) : W p l e R s m args below meth c H locs cells slots Q (F0 m pc ls st0) := by
  subst hst0
  exact va_calll (va_runV (As := As) (rest := rest) ⟨C.hx, C.hb, C.hml, C.hown, C.hts⟩ (hM H.size) ⟨⟨rfl, rfl, hR.1, hR.2, gpay C.hts hF.1, List.mem_cons_self, C.hts _ hF.1, C.hts _ hF.2.1, hF.2.2.1, fun sig h => by have h2 := hF.2.2.2; rw [h] at h2; exact (Option.some.inj h2).symm, C.hts _ hlk⟩, C.hts _ hin, C.hts _ hse⟩ ⟨gPc_blind, va_recv C.hK hP hcl (gw_k hbk hbc), (fun U hU hW => ⟨rfl, by rw [hU], by rw [hU]; exact hP, va_K.moved hW.alike C.hK, by rw [hU]; exact C.envAt hS hW⟩)⟩ rfl hn hls rfl (lv_room hcat) hdg hf) hS (fun q _ h => C.sub hS q h) (fun q h => C.sub hS q h) (fun r u t H1 locs1 ht hvm hw hB hz hk1 hS1 => kk r u.1 u.2 H1 locs1 hw (by rw [← ht]; exact hB) hS1)
theorem gT_callVl (C : gC p s m args meth c cc nL own D cy ad A) (hP : gP D cy ad I L H) (hS : va_S A s.heap H locs) (hls : ls.size = nL) {y : MethodName} {bytes : ByteArray} {maxL index n : Nat} {ty : FieldType} {rm : Room} {b : Nat} {As : List Value} {post : Int64 → MI → ML → Prop} {xp1 : String → MI → ML → Prop} {Qc : Array Value → State → Outcome → State → Prop} (hM : gTl l D cy ad y bytes maxL ty rm (.ref (ad b) :: As) I L post xp1) (hF : gF y bytes maxL (some ty) n) (hlk : Cond.methodLink own index y ∈ WS) (hin : Cond.instanceMethod y ∈ WS) (hse : Cond.selects y.cls y y ∈ WS) (hbk : b < 154) {ci : Nat} {fs : List Value} {T : u_T} {N : Nat} (hbc : kct cy ad b (I b) (L b) = .inr (ci, fs)) (hcl : vwCl[ci]? = some (y.cls, T, N)) (hn : As.length = n) (hR : rm.frames + 1 ≤ R.frames ∧ 8 + (maxL + 11) + rm.locals ≤ R.locals) (hcat : (rest.map fun v => v.category).sum ≤ 8) (hf : cells + rm.cells ≤ R.cells ∧ slots + rm.slots ≤ R.slots) (hout : ∀ x ∈ c.exceptionTable.toList, False) (hxc : cells + rm.cells ≤ mc ∧ slots + rm.slots ≤ ms) (hxp : ∀ (E : String) (I1 : MI) (L1 : ML), xp1 E I1 L1 → xp E I1 L1) (hdg : decode cc pc = .ok (.invokevirtual index, 3)) {st0 : List Value} (hst0 : st0 = (As.reverse ++ .ref (ad b) :: rest))
    (kk : ∀ (r : Int64) (I1 : MI) (L1 : ML) (H1 : Heap) (locs1 : List Loc), post r I1 L1 → gP D cy ad I1 L1 H1 → va_S A s.heap H1 locs1 → W p l e R s m args below meth c H1 locs1 (cells + rm.cells) (slots + rm.slots) (vx_MQ below Qc (gXC D cy ad A xp) args s mc ms A) (F0 m (pc + 3) ls (.long r :: rest))) : W p l e R s m args below meth c H locs cells slots (vx_MQ below Qc (gXC D cy ad A xp) args s mc ms A) (F0 m pc ls st0) := by
  subst hst0
  exact vx_calll (vx_runV (As := As) (rest := rest) ⟨C.hx, C.hb, C.hml, C.hown, C.hts⟩ (hM H.size) ⟨⟨rfl, rfl, hR.1, hR.2, gpay C.hts hF.1, List.mem_cons_self, C.hts _ hF.1, C.hts _ hF.2.1, hF.2.2.1, fun sig h => by have h2 := hF.2.2.2; rw [h] at h2; exact (Option.some.inj h2).symm, C.hts _ hlk⟩, C.hts _ hin, C.hts _ hse⟩ ⟨gPc_blind, va_recv C.hK hP hcl (gw_k hbk hbc), (fun U hU hW => ⟨rfl, by rw [hU], by rw [hU]; exact hP, va_K.moved hW.alike C.hK, by rw [hU]; exact C.envAt hS hW⟩)⟩ rfl hn hls rfl (lv_room hcat) hdg hf) hS (fun q _ h => C.sub hS q h) (fun q h => C.sub hS q h) (fun q _ h => C.sub hS q h) (fun E ce q9 u t H1 locs1 ht hvm hpx hBX hz hk1 hS1 hce hcv hcE => vx_out (fun x hx => (hout x hx).elim) C.hlk hce hcv hcE (fun t2 ht2 hv2 => ⟨u, trivial, ⟨hxp E u.1 u.2 hBX.1, by rw [ht2, ← ht]; exact hBX.2⟩, hS1.F ht2⟩) hS1.2.2 hxc.1 hxc.2) (fun r u t H1 locs1 ht hvm hw hB hz hk1 hS1 => kk r u.1 u.2 H1 locs1 hw (by rw [← ht]; exact hB) hS1)
theorem gM_callVv (C : gC p s m args meth c cc nL own D cy ad A) (hP : gP D cy ad I L H) (hS : va_S A s.heap H locs) (hls : ls.size = nL) {y : MethodName} {bytes : ByteArray} {maxL index n : Nat} {rm : Room} {b : Nat} {As : List Value} {post : MI → ML → Prop} (hM : gMv l D cy ad y bytes maxL rm (.ref (ad b) :: As) I L post) (hF : gF y bytes maxL none n) (hlk : Cond.methodLink own index y ∈ WS) (hin : Cond.instanceMethod y ∈ WS) (hse : Cond.selects y.cls y y ∈ WS) (hbk : b < 154) {ci : Nat} {fs : List Value} {T : u_T} {N : Nat} (hbc : kct cy ad b (I b) (L b) = .inr (ci, fs)) (hcl : vwCl[ci]? = some (y.cls, T, N)) (hn : As.length = n) (hR : rm.frames + 1 ≤ R.frames ∧ 8 + (maxL + 11) + rm.locals ≤ R.locals) (hcat : (rest.map fun v => v.category).sum ≤ 8) (hf : cells + rm.cells ≤ R.cells ∧ slots + rm.slots ≤ R.slots) (hdg : decode cc pc = .ok (.invokevirtual index, 3)) {st0 : List Value} (hst0 : st0 = (As.reverse ++ .ref (ad b) :: rest))
    (kk : ∀ (I1 : MI) (L1 : ML) (H1 : Heap) (locs1 : List Loc), post I1 L1 → gP D cy ad I1 L1 H1 → va_S A s.heap H1 locs1 → W p l e R s m args below meth c H1 locs1 (cells + rm.cells) (slots + rm.slots) Q (F0 m (pc + 3) ls rest)) : W p l e R s m args below meth c H locs cells slots Q (F0 m pc ls st0) := by
  subst hst0
  exact va_callv (va_runV (As := As) (rest := rest) ⟨C.hx, C.hb, C.hml, C.hown, C.hts⟩ (hM H.size) ⟨⟨rfl, rfl, hR.1, hR.2, gpay C.hts hF.1, List.mem_cons_self, C.hts _ hF.1, C.hts _ hF.2.1, hF.2.2.1, fun sig h => by have h2 := hF.2.2.2; rw [h] at h2; exact (Option.some.inj h2).symm, C.hts _ hlk⟩, C.hts _ hin, C.hts _ hse⟩ ⟨gPc_blind, va_recv C.hK hP hcl (gw_k hbk hbc), (fun U hU hW => ⟨rfl, by rw [hU], by rw [hU]; exact hP, va_K.moved hW.alike C.hK, by rw [hU]; exact C.envAt hS hW⟩)⟩ rfl hn hls rfl (lv_room hcat) hdg hf) hS (fun q _ h => C.sub hS q h) (fun q h => C.sub hS q h) (fun u t H1 locs1 ht hvm hw hB hz hk1 hS1 => kk u.1 u.2 H1 locs1 hw (by rw [← ht]; exact hB) hS1)
theorem gT_callVv (C : gC p s m args meth c cc nL own D cy ad A) (hP : gP D cy ad I L H) (hS : va_S A s.heap H locs) (hls : ls.size = nL) {y : MethodName} {bytes : ByteArray} {maxL index n : Nat} {rm : Room} {b : Nat} {As : List Value} {post : MI → ML → Prop} {xp1 : String → MI → ML → Prop} {Qc : Array Value → State → Outcome → State → Prop} (hM : gTv l D cy ad y bytes maxL rm (.ref (ad b) :: As) I L post xp1) (hF : gF y bytes maxL none n) (hlk : Cond.methodLink own index y ∈ WS) (hin : Cond.instanceMethod y ∈ WS) (hse : Cond.selects y.cls y y ∈ WS) (hbk : b < 154) {ci : Nat} {fs : List Value} {T : u_T} {N : Nat} (hbc : kct cy ad b (I b) (L b) = .inr (ci, fs)) (hcl : vwCl[ci]? = some (y.cls, T, N)) (hn : As.length = n) (hR : rm.frames + 1 ≤ R.frames ∧ 8 + (maxL + 11) + rm.locals ≤ R.locals) (hcat : (rest.map fun v => v.category).sum ≤ 8) (hf : cells + rm.cells ≤ R.cells ∧ slots + rm.slots ≤ R.slots) (hout : ∀ x ∈ c.exceptionTable.toList, False) (hxc : cells + rm.cells ≤ mc ∧ slots + rm.slots ≤ ms) (hxp : ∀ (E : String) (I1 : MI) (L1 : ML), xp1 E I1 L1 → xp E I1 L1) (hdg : decode cc pc = .ok (.invokevirtual index, 3)) {st0 : List Value} (hst0 : st0 = (As.reverse ++ .ref (ad b) :: rest))
    (kk : ∀ (I1 : MI) (L1 : ML) (H1 : Heap) (locs1 : List Loc), post I1 L1 → gP D cy ad I1 L1 H1 → va_S A s.heap H1 locs1 → W p l e R s m args below meth c H1 locs1 (cells + rm.cells) (slots + rm.slots) (vx_MQ below Qc (gXC D cy ad A xp) args s mc ms A) (F0 m (pc + 3) ls rest)) : W p l e R s m args below meth c H locs cells slots (vx_MQ below Qc (gXC D cy ad A xp) args s mc ms A) (F0 m pc ls st0) := by
  subst hst0
  exact vx_callv (vx_runV (As := As) (rest := rest) ⟨C.hx, C.hb, C.hml, C.hown, C.hts⟩ (hM H.size) ⟨⟨rfl, rfl, hR.1, hR.2, gpay C.hts hF.1, List.mem_cons_self, C.hts _ hF.1, C.hts _ hF.2.1, hF.2.2.1, fun sig h => by have h2 := hF.2.2.2; rw [h] at h2; exact (Option.some.inj h2).symm, C.hts _ hlk⟩, C.hts _ hin, C.hts _ hse⟩ ⟨gPc_blind, va_recv C.hK hP hcl (gw_k hbk hbc), (fun U hU hW => ⟨rfl, by rw [hU], by rw [hU]; exact hP, va_K.moved hW.alike C.hK, by rw [hU]; exact C.envAt hS hW⟩)⟩ rfl hn hls rfl (lv_room hcat) hdg hf) hS (fun q _ h => C.sub hS q h) (fun q h => C.sub hS q h) (fun q _ h => C.sub hS q h) (fun E ce q9 u t H1 locs1 ht hvm hpx hBX hz hk1 hS1 hce hcv hcE => vx_out (fun x hx => (hout x hx).elim) C.hlk hce hcv hcE (fun t2 ht2 hv2 => ⟨u, trivial, ⟨hxp E u.1 u.2 hBX.1, by rw [ht2, ← ht]; exact hBX.2⟩, hS1.F ht2⟩) hS1.2.2 hxc.1 hxc.2) (fun u t H1 locs1 ht hvm hw hB hz hk1 hS1 => kk u.1 u.2 H1 locs1 hw (by rw [← ht]; exact hB) hS1)
theorem gM_callSi (C : gC p s m args meth c cc nL own D cy ad A) (hP : gP D cy ad I L H) (hS : va_S A s.heap H locs) (hls : ls.size = nL) {y : MethodName} {bytes : ByteArray} {maxL index n : Nat} {ty : FieldType} {rm : Room} {As : List Value} {post : Int32 → MI → ML → Prop} (hM : gMi l D cy ad y bytes maxL ty rm As I L post) (hF : gF y bytes maxL (some ty) n) (hlk : Cond.methodLink own index y ∈ WS) (hst : Cond.static y ∈ WS) (hn : As.length = n) (hR : rm.frames + 1 ≤ R.frames ∧ 8 + (maxL + 11) + rm.locals ≤ R.locals) (hcat : (rest.map fun v => v.category).sum ≤ 8) (hf : cells + rm.cells ≤ R.cells ∧ slots + rm.slots ≤ R.slots) (hdg : decode cc pc = .ok (.invokestatic index, 3)) {st0 : List Value} (hst0 : st0 = (As.reverse ++ rest))
    (kk : ∀ (r : Int32) (I1 : MI) (L1 : ML) (H1 : Heap) (locs1 : List Loc), post r I1 L1 → gP D cy ad I1 L1 H1 → va_S A s.heap H1 locs1 → W p l e R s m args below meth c H1 locs1 (cells + rm.cells) (slots + rm.slots) Q (F0 m (pc + 3) ls (.int r :: rest))) : W p l e R s m args below meth c H locs cells slots Q (F0 m pc ls st0) := by
  subst hst0
  exact va_calli (va_runS (As := As) (rest := rest) ⟨C.hx, C.hb, C.hml, C.hown, C.hts⟩ (hM H.size) ⟨⟨rfl, rfl, hR.1, hR.2, gpay C.hts hF.1, List.mem_cons_self, C.hts _ hF.1, C.hts _ hF.2.1, hF.2.2.1, fun sig h => by have h2 := hF.2.2.2; rw [h] at h2; exact (Option.some.inj h2).symm, C.hts _ hlk⟩, C.hts _ hst⟩ ⟨gPc_blind, (fun U hU hW => ⟨rfl, by rw [hU], by rw [hU]; exact hP, va_K.moved hW.alike C.hK, by rw [hU]; exact C.envAt hS hW⟩)⟩ rfl hn hls rfl (lv_room hcat) hdg hf) hS (fun q _ h => C.sub hS q h) (fun q h => C.sub hS q h) (fun r u t H1 locs1 ht hvm hw hB hz hk1 hS1 => kk r u.1 u.2 H1 locs1 hw (by rw [← ht]; exact hB) hS1)
theorem gT_callSi (C : gC p s m args meth c cc nL own D cy ad A) (hP : gP D cy ad I L H) (hS : va_S A s.heap H locs) (hls : ls.size = nL) {y : MethodName} {bytes : ByteArray} {maxL index n : Nat} {ty : FieldType} {rm : Room} {As : List Value} {post : Int32 → MI → ML → Prop} {xp1 : String → MI → ML → Prop} {Qc : Array Value → State → Outcome → State → Prop} (hM : gTi l D cy ad y bytes maxL ty rm As I L post xp1) (hF : gF y bytes maxL (some ty) n) (hlk : Cond.methodLink own index y ∈ WS) (hst : Cond.static y ∈ WS) (hn : As.length = n) (hR : rm.frames + 1 ≤ R.frames ∧ 8 + (maxL + 11) + rm.locals ≤ R.locals) (hcat : (rest.map fun v => v.category).sum ≤ 8) (hf : cells + rm.cells ≤ R.cells ∧ slots + rm.slots ≤ R.slots) (hout : ∀ x ∈ c.exceptionTable.toList, False) (hxc : cells + rm.cells ≤ mc ∧ slots + rm.slots ≤ ms) (hxp : ∀ (E : String) (I1 : MI) (L1 : ML), xp1 E I1 L1 → xp E I1 L1) (hdg : decode cc pc = .ok (.invokestatic index, 3)) {st0 : List Value} (hst0 : st0 = (As.reverse ++ rest))
    (kk : ∀ (r : Int32) (I1 : MI) (L1 : ML) (H1 : Heap) (locs1 : List Loc), post r I1 L1 → gP D cy ad I1 L1 H1 → va_S A s.heap H1 locs1 → W p l e R s m args below meth c H1 locs1 (cells + rm.cells) (slots + rm.slots) (vx_MQ below Qc (gXC D cy ad A xp) args s mc ms A) (F0 m (pc + 3) ls (.int r :: rest))) : W p l e R s m args below meth c H locs cells slots (vx_MQ below Qc (gXC D cy ad A xp) args s mc ms A) (F0 m pc ls st0) := by
  subst hst0
  exact vx_calli (vx_runS (As := As) (rest := rest) ⟨C.hx, C.hb, C.hml, C.hown, C.hts⟩ (hM H.size) ⟨⟨rfl, rfl, hR.1, hR.2, gpay C.hts hF.1, List.mem_cons_self, C.hts _ hF.1, C.hts _ hF.2.1, hF.2.2.1, fun sig h => by have h2 := hF.2.2.2; rw [h] at h2; exact (Option.some.inj h2).symm, C.hts _ hlk⟩, C.hts _ hst⟩ ⟨gPc_blind, (fun U hU hW => ⟨rfl, by rw [hU], by rw [hU]; exact hP, va_K.moved hW.alike C.hK, by rw [hU]; exact C.envAt hS hW⟩)⟩ rfl hn hls rfl (lv_room hcat) hdg hf) hS (fun q _ h => C.sub hS q h) (fun q h => C.sub hS q h) (fun q _ h => C.sub hS q h) (fun E ce q9 u t H1 locs1 ht hvm hpx hBX hz hk1 hS1 hce hcv hcE => vx_out (fun x hx => (hout x hx).elim) C.hlk hce hcv hcE (fun t2 ht2 hv2 => ⟨u, trivial, ⟨hxp E u.1 u.2 hBX.1, by rw [ht2, ← ht]; exact hBX.2⟩, hS1.F ht2⟩) hS1.2.2 hxc.1 hxc.2) (fun r u t H1 locs1 ht hvm hw hB hz hk1 hS1 => kk r u.1 u.2 H1 locs1 hw (by rw [← ht]; exact hB) hS1)
theorem gM_callSl (C : gC p s m args meth c cc nL own D cy ad A) (hP : gP D cy ad I L H) (hS : va_S A s.heap H locs) (hls : ls.size = nL) {y : MethodName} {bytes : ByteArray} {maxL index n : Nat} {ty : FieldType} {rm : Room} {As : List Value} {post : Int64 → MI → ML → Prop} (hM : gMl l D cy ad y bytes maxL ty rm As I L post) (hF : gF y bytes maxL (some ty) n) (hlk : Cond.methodLink own index y ∈ WS) (hst : Cond.static y ∈ WS) (hn : As.length = n) (hR : rm.frames + 1 ≤ R.frames ∧ 8 + (maxL + 11) + rm.locals ≤ R.locals) (hcat : (rest.map fun v => v.category).sum ≤ 8) (hf : cells + rm.cells ≤ R.cells ∧ slots + rm.slots ≤ R.slots) (hdg : decode cc pc = .ok (.invokestatic index, 3)) {st0 : List Value} (hst0 : st0 = (As.reverse ++ rest))
    (kk : ∀ (r : Int64) (I1 : MI) (L1 : ML) (H1 : Heap) (locs1 : List Loc), post r I1 L1 → gP D cy ad I1 L1 H1 → va_S A s.heap H1 locs1 → W p l e R s m args below meth c H1 locs1 (cells + rm.cells) (slots + rm.slots) Q (F0 m (pc + 3) ls (.long r :: rest))) : W p l e R s m args below meth c H locs cells slots Q (F0 m pc ls st0) := by
  subst hst0
  exact va_calll (va_runS (As := As) (rest := rest) ⟨C.hx, C.hb, C.hml, C.hown, C.hts⟩ (hM H.size) ⟨⟨rfl, rfl, hR.1, hR.2, gpay C.hts hF.1, List.mem_cons_self, C.hts _ hF.1, C.hts _ hF.2.1, hF.2.2.1, fun sig h => by have h2 := hF.2.2.2; rw [h] at h2; exact (Option.some.inj h2).symm, C.hts _ hlk⟩, C.hts _ hst⟩ ⟨gPc_blind, (fun U hU hW => ⟨rfl, by rw [hU], by rw [hU]; exact hP, va_K.moved hW.alike C.hK, by rw [hU]; exact C.envAt hS hW⟩)⟩ rfl hn hls rfl (lv_room hcat) hdg hf) hS (fun q _ h => C.sub hS q h) (fun q h => C.sub hS q h) (fun r u t H1 locs1 ht hvm hw hB hz hk1 hS1 => kk r u.1 u.2 H1 locs1 hw (by rw [← ht]; exact hB) hS1)
theorem gT_callSl (C : gC p s m args meth c cc nL own D cy ad A) (hP : gP D cy ad I L H) (hS : va_S A s.heap H locs) (hls : ls.size = nL) {y : MethodName} {bytes : ByteArray} {maxL index n : Nat} {ty : FieldType} {rm : Room} {As : List Value} {post : Int64 → MI → ML → Prop} {xp1 : String → MI → ML → Prop} {Qc : Array Value → State → Outcome → State → Prop} (hM : gTl l D cy ad y bytes maxL ty rm As I L post xp1) (hF : gF y bytes maxL (some ty) n) (hlk : Cond.methodLink own index y ∈ WS) (hst : Cond.static y ∈ WS) (hn : As.length = n) (hR : rm.frames + 1 ≤ R.frames ∧ 8 + (maxL + 11) + rm.locals ≤ R.locals) (hcat : (rest.map fun v => v.category).sum ≤ 8) (hf : cells + rm.cells ≤ R.cells ∧ slots + rm.slots ≤ R.slots) (hout : ∀ x ∈ c.exceptionTable.toList, False) (hxc : cells + rm.cells ≤ mc ∧ slots + rm.slots ≤ ms) (hxp : ∀ (E : String) (I1 : MI) (L1 : ML), xp1 E I1 L1 → xp E I1 L1) (hdg : decode cc pc = .ok (.invokestatic index, 3)) {st0 : List Value} (hst0 : st0 = (As.reverse ++ rest))
    (kk : ∀ (r : Int64) (I1 : MI) (L1 : ML) (H1 : Heap) (locs1 : List Loc), post r I1 L1 → gP D cy ad I1 L1 H1 → va_S A s.heap H1 locs1 → W p l e R s m args below meth c H1 locs1 (cells + rm.cells) (slots + rm.slots) (vx_MQ below Qc (gXC D cy ad A xp) args s mc ms A) (F0 m (pc + 3) ls (.long r :: rest))) : W p l e R s m args below meth c H locs cells slots (vx_MQ below Qc (gXC D cy ad A xp) args s mc ms A) (F0 m pc ls st0) := by
  subst hst0
  exact vx_calll (vx_runS (As := As) (rest := rest) ⟨C.hx, C.hb, C.hml, C.hown, C.hts⟩ (hM H.size) ⟨⟨rfl, rfl, hR.1, hR.2, gpay C.hts hF.1, List.mem_cons_self, C.hts _ hF.1, C.hts _ hF.2.1, hF.2.2.1, fun sig h => by have h2 := hF.2.2.2; rw [h] at h2; exact (Option.some.inj h2).symm, C.hts _ hlk⟩, C.hts _ hst⟩ ⟨gPc_blind, (fun U hU hW => ⟨rfl, by rw [hU], by rw [hU]; exact hP, va_K.moved hW.alike C.hK, by rw [hU]; exact C.envAt hS hW⟩)⟩ rfl hn hls rfl (lv_room hcat) hdg hf) hS (fun q _ h => C.sub hS q h) (fun q h => C.sub hS q h) (fun q _ h => C.sub hS q h) (fun E ce q9 u t H1 locs1 ht hvm hpx hBX hz hk1 hS1 hce hcv hcE => vx_out (fun x hx => (hout x hx).elim) C.hlk hce hcv hcE (fun t2 ht2 hv2 => ⟨u, trivial, ⟨hxp E u.1 u.2 hBX.1, by rw [ht2, ← ht]; exact hBX.2⟩, hS1.F ht2⟩) hS1.2.2 hxc.1 hxc.2) (fun r u t H1 locs1 ht hvm hw hB hz hk1 hS1 => kk r u.1 u.2 H1 locs1 hw (by rw [← ht]; exact hB) hS1)
theorem gM_callSv (C : gC p s m args meth c cc nL own D cy ad A) (hP : gP D cy ad I L H) (hS : va_S A s.heap H locs) (hls : ls.size = nL) {y : MethodName} {bytes : ByteArray} {maxL index n : Nat} {rm : Room} {As : List Value} {post : MI → ML → Prop} (hM : gMv l D cy ad y bytes maxL rm As I L post) (hF : gF y bytes maxL none n) (hlk : Cond.methodLink own index y ∈ WS) (hst : Cond.static y ∈ WS) (hn : As.length = n) (hR : rm.frames + 1 ≤ R.frames ∧ 8 + (maxL + 11) + rm.locals ≤ R.locals) (hcat : (rest.map fun v => v.category).sum ≤ 8) (hf : cells + rm.cells ≤ R.cells ∧ slots + rm.slots ≤ R.slots) (hdg : decode cc pc = .ok (.invokestatic index, 3)) {st0 : List Value} (hst0 : st0 = (As.reverse ++ rest))
    (kk : ∀ (I1 : MI) (L1 : ML) (H1 : Heap) (locs1 : List Loc), post I1 L1 → gP D cy ad I1 L1 H1 → va_S A s.heap H1 locs1 → W p l e R s m args below meth c H1 locs1 (cells + rm.cells) (slots + rm.slots) Q (F0 m (pc + 3) ls rest)) : W p l e R s m args below meth c H locs cells slots Q (F0 m pc ls st0) := by
  subst hst0
  exact va_callv (va_runS (As := As) (rest := rest) ⟨C.hx, C.hb, C.hml, C.hown, C.hts⟩ (hM H.size) ⟨⟨rfl, rfl, hR.1, hR.2, gpay C.hts hF.1, List.mem_cons_self, C.hts _ hF.1, C.hts _ hF.2.1, hF.2.2.1, fun sig h => by have h2 := hF.2.2.2; rw [h] at h2; exact (Option.some.inj h2).symm, C.hts _ hlk⟩, C.hts _ hst⟩ ⟨gPc_blind, (fun U hU hW => ⟨rfl, by rw [hU], by rw [hU]; exact hP, va_K.moved hW.alike C.hK, by rw [hU]; exact C.envAt hS hW⟩)⟩ rfl hn hls rfl (lv_room hcat) hdg hf) hS (fun q _ h => C.sub hS q h) (fun q h => C.sub hS q h) (fun u t H1 locs1 ht hvm hw hB hz hk1 hS1 => kk u.1 u.2 H1 locs1 hw (by rw [← ht]; exact hB) hS1)
theorem gT_callSv (C : gC p s m args meth c cc nL own D cy ad A) (hP : gP D cy ad I L H) (hS : va_S A s.heap H locs) (hls : ls.size = nL) {y : MethodName} {bytes : ByteArray} {maxL index n : Nat} {rm : Room} {As : List Value} {post : MI → ML → Prop} {xp1 : String → MI → ML → Prop} {Qc : Array Value → State → Outcome → State → Prop} (hM : gTv l D cy ad y bytes maxL rm As I L post xp1) (hF : gF y bytes maxL none n) (hlk : Cond.methodLink own index y ∈ WS) (hst : Cond.static y ∈ WS) (hn : As.length = n) (hR : rm.frames + 1 ≤ R.frames ∧ 8 + (maxL + 11) + rm.locals ≤ R.locals) (hcat : (rest.map fun v => v.category).sum ≤ 8) (hf : cells + rm.cells ≤ R.cells ∧ slots + rm.slots ≤ R.slots) (hout : ∀ x ∈ c.exceptionTable.toList, False) (hxc : cells + rm.cells ≤ mc ∧ slots + rm.slots ≤ ms) (hxp : ∀ (E : String) (I1 : MI) (L1 : ML), xp1 E I1 L1 → xp E I1 L1) (hdg : decode cc pc = .ok (.invokestatic index, 3)) {st0 : List Value} (hst0 : st0 = (As.reverse ++ rest))
    (kk : ∀ (I1 : MI) (L1 : ML) (H1 : Heap) (locs1 : List Loc), post I1 L1 → gP D cy ad I1 L1 H1 → va_S A s.heap H1 locs1 → W p l e R s m args below meth c H1 locs1 (cells + rm.cells) (slots + rm.slots) (vx_MQ below Qc (gXC D cy ad A xp) args s mc ms A) (F0 m (pc + 3) ls rest)) : W p l e R s m args below meth c H locs cells slots (vx_MQ below Qc (gXC D cy ad A xp) args s mc ms A) (F0 m pc ls st0) := by
  subst hst0
  exact vx_callv (vx_runS (As := As) (rest := rest) ⟨C.hx, C.hb, C.hml, C.hown, C.hts⟩ (hM H.size) ⟨⟨rfl, rfl, hR.1, hR.2, gpay C.hts hF.1, List.mem_cons_self, C.hts _ hF.1, C.hts _ hF.2.1, hF.2.2.1, fun sig h => by have h2 := hF.2.2.2; rw [h] at h2; exact (Option.some.inj h2).symm, C.hts _ hlk⟩, C.hts _ hst⟩ ⟨gPc_blind, (fun U hU hW => ⟨rfl, by rw [hU], by rw [hU]; exact hP, va_K.moved hW.alike C.hK, by rw [hU]; exact C.envAt hS hW⟩)⟩ rfl hn hls rfl (lv_room hcat) hdg hf) hS (fun q _ h => C.sub hS q h) (fun q h => C.sub hS q h) (fun q _ h => C.sub hS q h) (fun E ce q9 u t H1 locs1 ht hvm hpx hBX hz hk1 hS1 hce hcv hcE => vx_out (fun x hx => (hout x hx).elim) C.hlk hce hcv hcE (fun t2 ht2 hv2 => ⟨u, trivial, ⟨hxp E u.1 u.2 hBX.1, by rw [ht2, ← ht]; exact hBX.2⟩, hS1.F ht2⟩) hS1.2.2 hxc.1 hxc.2) (fun u t H1 locs1 ht hvm hw hB hz hk1 hS1 => kk u.1 u.2 H1 locs1 hw (by rw [← ht]; exact hB) hS1)
theorem gM_callVNi (C : gC p s m args meth c cc nL own D cy ad A) (hP : gP D cy ad I L H) (hS : va_S A s.heap H locs) (hls : ls.size = nL) {y : MethodName} {bytes : ByteArray} {maxL index n : Nat} {ty : FieldType} {rm : Room} {b : Nat} {As : List Value} {post : Int32 → MI → ML → Prop} (hM : gMi l D cy ad y bytes maxL ty rm (.ref (ad b) :: As) I L post) (hF : gF y bytes maxL (some ty) n) {host : String} (hlk : Cond.methodLinkNest own index y host ∈ gNW) (hin : Cond.instanceMethod y ∈ WS) (hse : Cond.selects y.cls y y ∈ WS) (hbk : b < 154) {ci : Nat} {fs : List Value} {T : u_T} {N : Nat} (hbc : kct cy ad b (I b) (L b) = .inr (ci, fs)) (hcl : vwCl[ci]? = some (y.cls, T, N)) (hn : As.length = n) (hR : rm.frames + 1 ≤ R.frames ∧ 8 + (maxL + 11) + rm.locals ≤ R.locals) (hcat : (rest.map fun v => v.category).sum ≤ 8) (hf : cells + rm.cells ≤ R.cells ∧ slots + rm.slots ≤ R.slots) (hdg : decode cc pc = .ok (.invokevirtual index, 3)) {st0 : List Value} (hst0 : st0 = (As.reverse ++ .ref (ad b) :: rest))
    (kk : ∀ (r : Int32) (I1 : MI) (L1 : ML) (H1 : Heap) (locs1 : List Loc), post r I1 L1 → gP D cy ad I1 L1 H1 → va_S A s.heap H1 locs1 → W p l e R s m args below meth c H1 locs1 (cells + rm.cells) (slots + rm.slots) Q (F0 m (pc + 3) ls (.int r :: rest))) : W p l e R s m args below meth c H locs cells slots Q (F0 m pc ls st0) := by
  subst hst0
  exact va_calli (va_runVN (As := As) (rest := rest) ⟨C.hx, C.hb, C.hml, C.hown, C.hts⟩ (hM H.size) ⟨⟨⟨rfl, rfl, hR.1, hR.2, gpay C.hts hF.1, List.mem_cons_self⟩, C.hts _ hF.1, C.hts _ hF.2.1, hF.2.2.1, fun sig h => by have h2 := hF.2.2.2; rw [h] at h2; exact (Option.some.inj h2).symm, va_Nw.use rfl (C.hE.2.2.1 _ hlk)⟩, C.hts _ hin, C.hts _ hse⟩ ⟨gPc_blind, va_recv C.hK hP hcl (gw_k hbk hbc), (fun U hU hW => ⟨rfl, by rw [hU], by rw [hU]; exact hP, va_K.moved hW.alike C.hK, by rw [hU]; exact C.envAt hS hW⟩)⟩ rfl hn hls rfl (lv_room hcat) hdg hf) hS (fun q _ h => C.sub hS q h) (fun q h => C.sub hS q h) (fun r u t H1 locs1 ht hvm hw hB hz hk1 hS1 => kk r u.1 u.2 H1 locs1 hw (by rw [← ht]; exact hB) hS1)
theorem gM_callVNl (C : gC p s m args meth c cc nL own D cy ad A) (hP : gP D cy ad I L H) (hS : va_S A s.heap H locs) (hls : ls.size = nL) {y : MethodName} {bytes : ByteArray} {maxL index n : Nat} {ty : FieldType} {rm : Room} {b : Nat} {As : List Value} {post : Int64 → MI → ML → Prop} (hM : gMl l D cy ad y bytes maxL ty rm (.ref (ad b) :: As) I L post) (hF : gF y bytes maxL (some ty) n) {host : String} (hlk : Cond.methodLinkNest own index y host ∈ gNW) (hin : Cond.instanceMethod y ∈ WS) (hse : Cond.selects y.cls y y ∈ WS) (hbk : b < 154) {ci : Nat} {fs : List Value} {T : u_T} {N : Nat} (hbc : kct cy ad b (I b) (L b) = .inr (ci, fs)) (hcl : vwCl[ci]? = some (y.cls, T, N)) (hn : As.length = n) (hR : rm.frames + 1 ≤ R.frames ∧ 8 + (maxL + 11) + rm.locals ≤ R.locals) (hcat : (rest.map fun v => v.category).sum ≤ 8) (hf : cells + rm.cells ≤ R.cells ∧ slots + rm.slots ≤ R.slots) (hdg : decode cc pc = .ok (.invokevirtual index, 3)) {st0 : List Value} (hst0 : st0 = (As.reverse ++ .ref (ad b) :: rest))
    (kk : ∀ (r : Int64) (I1 : MI) (L1 : ML) (H1 : Heap) (locs1 : List Loc), post r I1 L1 → gP D cy ad I1 L1 H1 → va_S A s.heap H1 locs1 → W p l e R s m args below meth c H1 locs1 (cells + rm.cells) (slots + rm.slots) Q (F0 m (pc + 3) ls (.long r :: rest))) : W p l e R s m args below meth c H locs cells slots Q (F0 m pc ls st0) := by
  subst hst0
  exact va_calll (va_runVN (As := As) (rest := rest) ⟨C.hx, C.hb, C.hml, C.hown, C.hts⟩ (hM H.size) ⟨⟨⟨rfl, rfl, hR.1, hR.2, gpay C.hts hF.1, List.mem_cons_self⟩, C.hts _ hF.1, C.hts _ hF.2.1, hF.2.2.1, fun sig h => by have h2 := hF.2.2.2; rw [h] at h2; exact (Option.some.inj h2).symm, va_Nw.use rfl (C.hE.2.2.1 _ hlk)⟩, C.hts _ hin, C.hts _ hse⟩ ⟨gPc_blind, va_recv C.hK hP hcl (gw_k hbk hbc), (fun U hU hW => ⟨rfl, by rw [hU], by rw [hU]; exact hP, va_K.moved hW.alike C.hK, by rw [hU]; exact C.envAt hS hW⟩)⟩ rfl hn hls rfl (lv_room hcat) hdg hf) hS (fun q _ h => C.sub hS q h) (fun q h => C.sub hS q h) (fun r u t H1 locs1 ht hvm hw hB hz hk1 hS1 => kk r u.1 u.2 H1 locs1 hw (by rw [← ht]; exact hB) hS1)
theorem gM_callVNv (C : gC p s m args meth c cc nL own D cy ad A) (hP : gP D cy ad I L H) (hS : va_S A s.heap H locs) (hls : ls.size = nL) {y : MethodName} {bytes : ByteArray} {maxL index n : Nat} {rm : Room} {b : Nat} {As : List Value} {post : MI → ML → Prop} (hM : gMv l D cy ad y bytes maxL rm (.ref (ad b) :: As) I L post) (hF : gF y bytes maxL none n) {host : String} (hlk : Cond.methodLinkNest own index y host ∈ gNW) (hin : Cond.instanceMethod y ∈ WS) (hse : Cond.selects y.cls y y ∈ WS) (hbk : b < 154) {ci : Nat} {fs : List Value} {T : u_T} {N : Nat} (hbc : kct cy ad b (I b) (L b) = .inr (ci, fs)) (hcl : vwCl[ci]? = some (y.cls, T, N)) (hn : As.length = n) (hR : rm.frames + 1 ≤ R.frames ∧ 8 + (maxL + 11) + rm.locals ≤ R.locals) (hcat : (rest.map fun v => v.category).sum ≤ 8) (hf : cells + rm.cells ≤ R.cells ∧ slots + rm.slots ≤ R.slots) (hdg : decode cc pc = .ok (.invokevirtual index, 3)) {st0 : List Value} (hst0 : st0 = (As.reverse ++ .ref (ad b) :: rest))
    (kk : ∀ (I1 : MI) (L1 : ML) (H1 : Heap) (locs1 : List Loc), post I1 L1 → gP D cy ad I1 L1 H1 → va_S A s.heap H1 locs1 → W p l e R s m args below meth c H1 locs1 (cells + rm.cells) (slots + rm.slots) Q (F0 m (pc + 3) ls rest)) : W p l e R s m args below meth c H locs cells slots Q (F0 m pc ls st0) := by
  subst hst0
  exact va_callv (va_runVN (As := As) (rest := rest) ⟨C.hx, C.hb, C.hml, C.hown, C.hts⟩ (hM H.size) ⟨⟨⟨rfl, rfl, hR.1, hR.2, gpay C.hts hF.1, List.mem_cons_self⟩, C.hts _ hF.1, C.hts _ hF.2.1, hF.2.2.1, fun sig h => by have h2 := hF.2.2.2; rw [h] at h2; exact (Option.some.inj h2).symm, va_Nw.use rfl (C.hE.2.2.1 _ hlk)⟩, C.hts _ hin, C.hts _ hse⟩ ⟨gPc_blind, va_recv C.hK hP hcl (gw_k hbk hbc), (fun U hU hW => ⟨rfl, by rw [hU], by rw [hU]; exact hP, va_K.moved hW.alike C.hK, by rw [hU]; exact C.envAt hS hW⟩)⟩ rfl hn hls rfl (lv_room hcat) hdg hf) hS (fun q _ h => C.sub hS q h) (fun q h => C.sub hS q h) (fun u t H1 locs1 ht hvm hw hB hz hk1 hS1 => kk u.1 u.2 H1 locs1 hw (by rw [← ht]; exact hB) hS1)
theorem g_throwS (C : gC p s m args meth c cc nL RX3 D cy ad A) (hlf : l.stackTraces = false) (hP : gP D cy ad I L H) (hS : va_S A s.heap H locs) (hls : ls.size = nL) {cls text : String} {ik is ic : Nat} {Qc : Array Value → State → Outcome → State → Prop} (hcls : Bundle.fit cls = true) (hk : Cond.classLink RX3 ik cls ∈ WS) (hini : Cond.initialized cls ∈ WS) (hstr : (is, text) ∈ gST) (hg1 : ∀ w ∈ (vx_atS RX3 ic cls gXN).filter goodWord, w ∈ WS) (hg2 : ∀ w ∈ (vx_atS RX3 ic cls gXN).filter (fun w => !goodWord w), w ∈ gNX) (hg3 : (vx_atS RX3 ic cls gXN).all vx_ot = true)
    (d0 : decode cc pc = .ok (.new ik, 3)) (d3 : decode cc (pc + 3) = .ok (.dup, 1)) (d4 : decode cc (pc + 4) = .ok (.ldc is, 2)) (d6 : decode cc (pc + 6) = .ok (.invokespecial ic, 3)) (d9 : decode cc (pc + 9) = .ok (.athrow, 1)) (hout : ∀ x ∈ c.exceptionTable.toList, False) (hR : 5 < R.frames ∧ 90 ≤ R.locals) (hcat : (rest.map fun v => v.category).sum ≤ 8) (hf : cells + 1 ≤ R.cells ∧ slots + 6 ≤ R.slots) (hc : cells + 1 ≤ mc) (hs : slots + 6 ≤ ms) (hx : xp cls I L) :
    W p l e R s m args below meth c H locs cells slots (vx_MQ below Qc (gXC D cy ad A xp) args s mc ms A) (F0 m pc ls rest) := by
  obtain ⟨sa, hsa⟩ := C.hE.2.2.2.1 _ hstr
  refine vx_throwS (names := gXN) C.hx C.hb hlf C.hown hcls (by decide) (C.hts _ hk) (C.hts _ hini) hsa (vx_hat (fun w hw => C.hts w (hg1 w hw)) hg2 (fun w hw => va_Nw.use (gNX_on w hw) (C.hE.2.2.2.2.1 w hw)))
    (List.forall_mem_cons.mpr ⟨rfl, List.forall_mem_cons.mpr ⟨rfl, fun w hw => List.all_eq_true.mp hg3 w hw⟩⟩) C.hE.1 C.hE.2.1 hS (hls.trans C.hml.symm) d0 d3 d4 d6 d9 (fun x hx => (hout x hx).elim) hR.1 ?_ hf.1 hf.2 C.hlk
    (fun t hvm hz hk1 => ⟨(I, L), trivial, ⟨hx, hP.kept hk1⟩, ?_⟩) hS.2.2 hc hs
  · show _ + (13 * (2 + 1) + 43) ≤ _
    omega
  · exact ⟨Nat.le_trans hS.1 hz, fun q h1 h2 => (hk1 q (Nat.lt_of_lt_of_le h1 hS.1)).trans (hS.2.1 q h1 h2)⟩
theorem g_throwSW (C : gC p s m args meth c cc nL RX3 D cy ad A) (hlf : l.stackTraces = false) (hP : gP D cy ad I L H) (hS : va_S A s.heap H locs) (hls : ls.size = nL) {cls text : String} {ik is ic : Nat} {Qc : Array Value → State → Outcome → State → Prop} (hcls : Bundle.fit cls = true) (hk : Cond.classLink RX3 ik cls ∈ WS) (hini : Cond.initialized cls ∈ WS) (hstr : (is, text) ∈ gST) (hg1 : ∀ w ∈ (vx_atS RX3 ic cls gXN).filter goodWord, w ∈ WS) (hg2 : ∀ w ∈ (vx_atS RX3 ic cls gXN).filter (fun w => !goodWord w), w ∈ gNX) (hg3 : (vx_atS RX3 ic cls gXN).all vx_ot = true)
    (d0 : decode cc pc = .ok (.new ik, 3)) (d3 : decode cc (pc + 3) = .ok (.dup, 1)) (d4 : decode cc (pc + 4) = .ok (.ldc_w is, 3)) (d7 : decode cc (pc + 7) = .ok (.invokespecial ic, 3)) (d10 : decode cc (pc + 10) = .ok (.athrow, 1)) (hout : ∀ x ∈ c.exceptionTable.toList, False) (hR : 5 < R.frames ∧ 90 ≤ R.locals) (hcat : (rest.map fun v => v.category).sum ≤ 8) (hf : cells + 1 ≤ R.cells ∧ slots + 6 ≤ R.slots) (hc : cells + 1 ≤ mc) (hs : slots + 6 ≤ ms) (hx : xp cls I L) :
    W p l e R s m args below meth c H locs cells slots (vx_MQ below Qc (gXC D cy ad A xp) args s mc ms A) (F0 m pc ls rest) := by
  obtain ⟨sa, hsa⟩ := C.hE.2.2.2.1 _ hstr
  refine vx_throwSW (names := gXN) C.hx C.hb hlf C.hown hcls (by decide) (C.hts _ hk) (C.hts _ hini) hsa (vx_hat (fun w hw => C.hts w (hg1 w hw)) hg2 (fun w hw => va_Nw.use (gNX_on w hw) (C.hE.2.2.2.2.1 w hw)))
    (List.forall_mem_cons.mpr ⟨rfl, List.forall_mem_cons.mpr ⟨rfl, fun w hw => List.all_eq_true.mp hg3 w hw⟩⟩) C.hE.1 C.hE.2.1 hS (hls.trans C.hml.symm) d0 d3 d4 d7 d10 (fun x hx => (hout x hx).elim) hR.1 ?_ hf.1 hf.2 C.hlk
    (fun t hvm hz hk1 => ⟨(I, L), trivial, ⟨hx, hP.kept hk1⟩, ?_⟩) hS.2.2 hc hs
  · show _ + (13 * (2 + 1) + 43) ≤ _
    omega
  · exact ⟨Nat.le_trans hS.1 hz, fun q h1 h2 => (hk1 q (Nat.lt_of_lt_of_le h1 hS.1)).trans (hS.2.1 q h1 h2)⟩
end RT
def gR (d mc ms : Nat) : Room := { frames := 11 - d, cells := mc, slots := ms, locals := 440 - 34 * d }
theorem nI_mulE {x y : Int32} {a b : Nat} (hx : x = nI a) (hy : y = nI b) : x * y = nI (a * b) := by rw [hx, hy, pk_mul]
theorem nI_addE {x y : Int32} {a b : Nat} (hx : x = nI a) (hy : y = nI b) : x + y = nI (a + b) := by rw [hx, hy, nI_add]
theorem nI_subE {x y : Int32} {a b : Nat} (hx : x = nI a) (hy : y = nI b) (h : b ≤ a) : x - y = nI (a - b) := by rw [hx, hy, pk_sub h]
theorem nI_eqqE {x y : Int32} {a b : Nat} (hx : x = nI a) (hy : y = nI b) (ha : a < 2 ^ 31) (hb : b < 2 ^ 31) : x = y ↔ a = b := by rw [hx, hy, nI_eq ha hb]
theorem nI_lttE {x y : Int32} {a b : Nat} (hx : x = nI a) (hy : y = nI b) (ha : a < 2 ^ 31) (hb : b < 2 ^ 31) : x < y ↔ a < b := by rw [hx, hy, nI_ltI ha hb]
theorem nI_leeE {x y : Int32} {a b : Nat} (hx : x = nI a) (hy : y = nI b) (ha : a < 2 ^ 31) (hb : b < 2 ^ 31) : x ≤ y ↔ a ≤ b := by rw [hx, hy, nI_leI ha hb]
theorem nI_dec (n : Nat) : nI (n + 1) + Int32.ofInt (-1) = nI n := pk_m1 n
theorem vpA {x M : Int32} {n : Nat} (h1 : ¬ x < 0) (h2 : ¬ M ≤ x) (hM : M.toInt = n) : vp_in x n := by
  rw [vp_in_iff]
  have a1 : ¬ x.toInt < (0 : Int32).toInt := fun z => h1 (Int32.lt_iff_toInt_lt.mpr z)
  have a2 : ¬ M.toInt ≤ x.toInt := fun z => h2 (Int32.le_iff_toInt_le.mpr z)
  have a3 : (0 : Int32).toInt = 0 := rfl
  omega
theorem vpA2 {x M : Int32} {n : Nat} (h1 : ¬ x < 0) (h2 : x < M) (hM : M.toInt = n) : vp_in x n := vpA h1 (fun z => by
  have a1 := Int32.lt_iff_toInt_lt.mp h2
  have a2 := Int32.le_iff_toInt_le.mp z
  omega) hM
theorem vpA3 {x M : Int32} {n : Nat} (h1 : ¬ x < 0) (h2 : ¬ M < x) (hM : M.toInt + 1 = n) : vp_in x n := by
  rw [vp_in_iff]
  have a1 : ¬ x.toInt < (0 : Int32).toInt := fun z => h1 (Int32.lt_iff_toInt_lt.mpr z)
  have a2 : ¬ M.toInt < x.toInt := fun z => h2 (Int32.lt_iff_toInt_lt.mpr z)
  have a3 : (0 : Int32).toInt = 0 := rfl
  omega
theorem vpB {x M : Int32} {n : Nat} (h : M ≤ x) (hM : M.toInt = n) : ¬ vp_in x n := by
  rw [vp_in_iff]
  have a2 := Int32.le_iff_toInt_le.mp h
  omega
theorem vpB2 {x M : Int32} {n : Nat} (h : ¬ x < M) (hM : M.toInt = n) : ¬ vp_in x n := by
  rw [vp_in_iff]
  have a2 : ¬ x.toInt < M.toInt := fun z => h (Int32.lt_iff_toInt_lt.mpr z)
  omega
theorem vpB3 {x M : Int32} {n : Nat} (h : M < x) (hM : M.toInt + 1 = n) : ¬ vp_in x n := by
  rw [vp_in_iff]
  have a2 := Int32.lt_iff_toInt_lt.mp h
  omega
theorem vpA4 {x M : Int32} {n : Nat} (h1 : ¬ x < 0) (h2 : x ≤ M) (hM : M.toInt + 1 = n) : vp_in x n := by
  rw [vp_in_iff]
  have a1 : ¬ x.toInt < (0 : Int32).toInt := fun z => h1 (Int32.lt_iff_toInt_lt.mpr z)
  have a2 := Int32.le_iff_toInt_le.mp h2
  have a3 : (0 : Int32).toInt = 0 := rfl
  omega
theorem vpC {x : Int32} {n : Nat} (h : x < 0) : ¬ vp_in x n := by
  rw [vp_in_iff]
  have a2 := Int32.lt_iff_toInt_lt.mp h
  have a3 : (0 : Int32).toInt = 0 := rfl
  omega
theorem vp_ix {x : Int32} {n : Nat} (h : vp_in x n) : x = nI x.toNatClampNeg ∧ x.toNatClampNeg < n := by
  have h0 := vp_in_iff.mp h
  have h1 := Int32.toInt_lt x
  have h2 : (x.toNatClampNeg : Int) = x.toInt := by
    show ((x.toInt.toNat : Nat) : Int) = _
    omega
  refine ⟨?_, by omega⟩
  apply Int32.toInt_inj.mp
  rw [nI_toInt (by omega)]
  omega
theorem nI_vp {n N : Nat} (hn : n < 2 ^ 31) : vp_in (nI n) N ↔ n < N := by
  rw [vp_in_iff, nI_toInt hn]
  omega
theorem fa_X0_init : gF yX0_init cX0_init 1 none 0 := ⟨kc_X0_init, kini_X0, ⟨by decide +kernel, by decide +kernel⟩, by decide +kernel⟩
theorem fa_X0_fill : gF yX0_fill cX0_fill 7 none 5 := ⟨kc_X0_fill, kini_X0, ⟨by decide +kernel, by decide +kernel⟩, by decide +kernel⟩
theorem fa_X1_init : gF yX1_init cX1_init 1 none 0 := ⟨kc_X1_init, kini_X1, ⟨by decide +kernel, by decide +kernel⟩, by decide +kernel⟩
theorem fa_X1_isCertified : gF yX1_isCertified cX1_isCertified 1 (some .boolean) 0 := ⟨kc_X1_isCertified, kini_X1, ⟨by decide +kernel, by decide +kernel⟩, by decide +kernel⟩
theorem fa_X1_hasLineFor : gF yX1_hasLineFor cX1_hasLineFor 3 (some .boolean) 1 := ⟨kc_X1_hasLineFor, kini_X1, ⟨by decide +kernel, by decide +kernel⟩, by decide +kernel⟩
theorem fa_X1_appendLine : gF yX1_appendLine cX1_appendLine 3 none 2 := ⟨kc_X1_appendLine, kini_X1, ⟨by decide +kernel, by decide +kernel⟩, by decide +kernel⟩
theorem fa_X1_shareSum : gF yX1_shareSum cX1_shareSum 3 (some .int) 0 := ⟨kc_X1_shareSum, kini_X1, ⟨by decide +kernel, by decide +kernel⟩, by decide +kernel⟩
theorem fa_X1_computePostings : gF yX1_computePostings cX1_computePostings 7 none 2 := ⟨kc_X1_computePostings, kini_X1, ⟨by decide +kernel, by decide +kernel⟩, by decide +kernel⟩
theorem fa_X2_init : gF yX2_init cX2_init 1 none 0 := ⟨kc_X2_init, kini_X2, ⟨by decide +kernel, by decide +kernel⟩, by decide +kernel⟩
theorem fa_X2_isInUse : gF yX2_isInUse cX2_isInUse 1 (some .boolean) 0 := ⟨kc_X2_isInUse, kini_X2, ⟨by decide +kernel, by decide +kernel⟩, by decide +kernel⟩
theorem fa_X2_fill : gF yX2_fill cX2_fill 5 none 3 := ⟨kc_X2_fill, kini_X2, ⟨by decide +kernel, by decide +kernel⟩, by decide +kernel⟩
theorem fa_X2_clear : gF yX2_clear cX2_clear 1 none 0 := ⟨kc_X2_clear, kini_X2, ⟨by decide +kernel, by decide +kernel⟩, by decide +kernel⟩
theorem fa_X3_init : gF yX3_init cX3_init 2 none 0 := ⟨kc_X3_init, kini_X3, ⟨by decide +kernel, by decide +kernel⟩, by decide +kernel⟩
theorem fa_X3_draw : gF yX3_draw cX3_draw 4 (some .int) 2 := ⟨kc_X3_draw, kini_X3, ⟨by decide +kernel, by decide +kernel⟩, by decide +kernel⟩
theorem fa_X3_add : gF yX3_add cX3_add 5 (some .int) 3 := ⟨kc_X3_add, kini_X3, ⟨by decide +kernel, by decide +kernel⟩, by decide +kernel⟩
theorem fa_X3_certify : gF yX3_certify cX3_certify 4 none 2 := ⟨kc_X3_certify, kini_X3, ⟨by decide +kernel, by decide +kernel⟩, by decide +kernel⟩
theorem fa_X3_grant : gF yX3_grant cX3_grant 7 (some .boolean) 4 := ⟨kc_X3_grant, kini_X3, ⟨by decide +kernel, by decide +kernel⟩, by decide +kernel⟩
theorem fa_X3_floor : gF yX3_floor cX3_floor 7 (some .long) 3 := ⟨kc_X3_floor, kini_X3, ⟨by decide +kernel, by decide +kernel⟩, by decide +kernel⟩
theorem fa_X3_ask : gF yX3_ask cX3_ask 5 (some .int) 3 := ⟨kc_X3_ask, kini_X3, ⟨by decide +kernel, by decide +kernel⟩, by decide +kernel⟩
theorem fa_X3_approve : gF yX3_approve cX3_approve 5 (some .int) 2 := ⟨kc_X3_approve, kini_X3, ⟨by decide +kernel, by decide +kernel⟩, by decide +kernel⟩
theorem fa_X3_withdraw : gF yX3_withdraw cX3_withdraw 4 none 2 := ⟨kc_X3_withdraw, kini_X3, ⟨by decide +kernel, by decide +kernel⟩, by decide +kernel⟩
theorem fa_X3_reverse : gF yX3_reverse cX3_reverse 5 (some .int) 2 := ⟨kc_X3_reverse, kini_X3, ⟨by decide +kernel, by decide +kernel⟩, by decide +kernel⟩
theorem fa_X3_tamper : gF yX3_tamper cX3_tamper 6 (some .long) 2 := ⟨kc_X3_tamper, kini_X3, ⟨by decide +kernel, by decide +kernel⟩, by decide +kernel⟩
theorem fa_X3_sound : gF yX3_sound cX3_sound 1 (some .boolean) 0 := ⟨kc_X3_sound, kini_X3, ⟨by decide +kernel, by decide +kernel⟩, by decide +kernel⟩
theorem fa_X3_restore : gF yX3_restore cX3_restore 4 (some .int) 1 := ⟨kc_X3_restore, kini_X3, ⟨by decide +kernel, by decide +kernel⟩, by decide +kernel⟩
theorem fa_X3_balance : gF yX3_balance cX3_balance 2 (some .long) 1 := ⟨kc_X3_balance, kini_X3, ⟨by decide +kernel, by decide +kernel⟩, by decide +kernel⟩
theorem fa_X3_balanceAt : gF yX3_balanceAt cX3_balanceAt 3 (some .long) 2 := ⟨kc_X3_balanceAt, kini_X3, ⟨by decide +kernel, by decide +kernel⟩, by decide +kernel⟩
theorem fa_X3_entries : gF yX3_entries cX3_entries 1 (some .int) 0 := ⟨kc_X3_entries, kini_X3, ⟨by decide +kernel, by decide +kernel⟩, by decide +kernel⟩
theorem fa_X3_entry : gF yX3_entry cX3_entry 4 (some .int) 2 := ⟨kc_X3_entry, kini_X3, ⟨by decide +kernel, by decide +kernel⟩, by decide +kernel⟩
theorem fa_X3_amount : gF yX3_amount cX3_amount 2 (some .long) 1 := ⟨kc_X3_amount, kini_X3, ⟨by decide +kernel, by decide +kernel⟩, by decide +kernel⟩
theorem fa_X3_requested : gF yX3_requested cX3_requested 2 (some .int) 1 := ⟨kc_X3_requested, kini_X3, ⟨by decide +kernel, by decide +kernel⟩, by decide +kernel⟩
theorem fa_X3_mayRun : gF yX3_mayRun cX3_mayRun 4 (some .boolean) 2 := ⟨kc_X3_mayRun, kini_X3, ⟨by decide +kernel, by decide +kernel⟩, by decide +kernel⟩
theorem fa_X3_mayApprove : gF yX3_mayApprove cX3_mayApprove 3 (some .boolean) 2 := ⟨kc_X3_mayApprove, kini_X3, ⟨by decide +kernel, by decide +kernel⟩, by decide +kernel⟩
theorem fa_X3_fileRequest : gF yX3_fileRequest cX3_fileRequest 6 (some .int) 3 := ⟨kc_X3_fileRequest, kini_X3, ⟨by decide +kernel, by decide +kernel⟩, by decide +kernel⟩
theorem fa_X3_runAndLog : gF yX3_runAndLog cX3_runAndLog 11 (some .int) 5 := ⟨kc_X3_runAndLog, kini_X3, ⟨by decide +kernel, by decide +kernel⟩, by decide +kernel⟩
theorem fa_X3_negatePostings : gF yX3_negatePostings cX3_negatePostings 2 none 0 := ⟨kc_X3_negatePostings, kini_X3, ⟨by decide +kernel, by decide +kernel⟩, by decide +kernel⟩
theorem fa_X3_requireNoLineFails : gF yX3_requireNoLineFails cX3_requireNoLineFails 8 none 1 := ⟨kc_X3_requireNoLineFails, kini_X3, ⟨by decide +kernel, by decide +kernel⟩, by decide +kernel⟩
theorem fa_X3_countUnsoundBalances : gF yX3_countUnsoundBalances cX3_countUnsoundBalances 3 (some .int) 0 := ⟨kc_X3_countUnsoundBalances, kini_X3, ⟨by decide +kernel, by decide +kernel⟩, by decide +kernel⟩
theorem fa_X3_requireBooksTakeRun : gF yX3_requireBooksTakeRun cX3_requireBooksTakeRun 1 none 0 := ⟨kc_X3_requireBooksTakeRun, kini_X3, ⟨by decide +kernel, by decide +kernel⟩, by decide +kernel⟩
theorem fa_X3_requireMayRun : gF yX3_requireMayRun cX3_requireMayRun 3 none 2 := ⟨kc_X3_requireMayRun, kini_X3, ⟨by decide +kernel, by decide +kernel⟩, by decide +kernel⟩
theorem fa_X3_requireProcedure : gF yX3_requireProcedure cX3_requireProcedure 2 none 1 := ⟨kc_X3_requireProcedure, kini_X3, ⟨by decide +kernel, by decide +kernel⟩, by decide +kernel⟩
theorem fa_X3_requireRequest : gF yX3_requireRequest cX3_requireRequest 2 none 1 := ⟨kc_X3_requireRequest, kini_X3, ⟨by decide +kernel, by decide +kernel⟩, by decide +kernel⟩
theorem fa_X3_requireEntry : gF yX3_requireEntry cX3_requireEntry 2 none 1 := ⟨kc_X3_requireEntry, kini_X3, ⟨by decide +kernel, by decide +kernel⟩, by decide +kernel⟩
theorem fa_X3_isProcedure : gF yX3_isProcedure cX3_isProcedure 2 (some .boolean) 1 := ⟨kc_X3_isProcedure, kini_X3, ⟨by decide +kernel, by decide +kernel⟩, by decide +kernel⟩
theorem fa_X3_isUser : gF yX3_isUser cX3_isUser 1 (some .boolean) 1 := ⟨kc_X3_isUser, kini_X3, ⟨by decide +kernel, by decide +kernel⟩, by decide +kernel⟩
theorem fa_X3_isBeyondLimit : gF yX3_isBeyondLimit cX3_isBeyondLimit 2 (some .boolean) 1 := ⟨kc_X3_isBeyondLimit, kini_X3, ⟨by decide +kernel, by decide +kernel⟩, by decide +kernel⟩
theorem fa_X3_requireAccount : gF yX3_requireAccount cX3_requireAccount 1 none 1 := ⟨kc_X3_requireAccount, kini_X3, ⟨by decide +kernel, by decide +kernel⟩, by decide +kernel⟩
theorem fa_X3_requireUser : gF yX3_requireUser cX3_requireUser 1 none 1 := ⟨kc_X3_requireUser, kini_X3, ⟨by decide +kernel, by decide +kernel⟩, by decide +kernel⟩
theorem fa_X3_requireOfficer : gF yX3_requireOfficer cX3_requireOfficer 1 none 1 := ⟨kc_X3_requireOfficer, kini_X3, ⟨by decide +kernel, by decide +kernel⟩, by decide +kernel⟩
theorem fa_X3_requireShare : gF yX3_requireShare cX3_requireShare 1 none 1 := ⟨kc_X3_requireShare, kini_X3, ⟨by decide +kernel, by decide +kernel⟩, by decide +kernel⟩
theorem fa_X4_init : gF yX4_init cX4_init 2 none 0 := ⟨kc_X4_init, kini_X4, ⟨by decide +kernel, by decide +kernel⟩, by decide +kernel⟩
theorem fa_X4_thrown : gF yX4_thrown cX4_thrown 1 (some .int) 0 := ⟨kc_X4_thrown, kini_X4, ⟨by decide +kernel, by decide +kernel⟩, by decide +kernel⟩
theorem fa_X4_isOne : gF yX4_isOne cX4_isOne 1 (some .boolean) 1 := ⟨kc_X4_isOne, kini_X4, ⟨by decide +kernel, by decide +kernel⟩, by decide +kernel⟩
theorem fa_X4_isProcedure : gF yX4_isProcedure cX4_isProcedure 2 (some .boolean) 1 := ⟨kc_X4_isProcedure, kini_X4, ⟨by decide +kernel, by decide +kernel⟩, by decide +kernel⟩
theorem fa_X4_isOfficer : gF yX4_isOfficer cX4_isOfficer 1 (some .boolean) 1 := ⟨kc_X4_isOfficer, kini_X4, ⟨by decide +kernel, by decide +kernel⟩, by decide +kernel⟩
theorem fa_X4_isShare : gF yX4_isShare cX4_isShare 1 (some .boolean) 1 := ⟨kc_X4_isShare, kini_X4, ⟨by decide +kernel, by decide +kernel⟩, by decide +kernel⟩
theorem fa_X4_draw : gF yX4_draw cX4_draw 4 (some .int) 2 := ⟨kc_X4_draw, kini_X4, ⟨by decide +kernel, by decide +kernel⟩, by decide +kernel⟩
theorem fa_X4_hasLine : gF yX4_hasLine cX4_hasLine 5 (some .boolean) 2 := ⟨kc_X4_hasLine, kini_X4, ⟨by decide +kernel, by decide +kernel⟩, by decide +kernel⟩
theorem fa_X4_add : gF yX4_add cX4_add 4 (some .int) 3 := ⟨kc_X4_add, kini_X4, ⟨by decide +kernel, by decide +kernel⟩, by decide +kernel⟩
theorem fa_X4_allShares : gF yX4_allShares cX4_allShares 4 (some .int) 1 := ⟨kc_X4_allShares, kini_X4, ⟨by decide +kernel, by decide +kernel⟩, by decide +kernel⟩
theorem fa_X4_certify : gF yX4_certify cX4_certify 3 none 2 := ⟨kc_X4_certify, kini_X4, ⟨by decide +kernel, by decide +kernel⟩, by decide +kernel⟩
theorem fa_X4_grant : gF yX4_grant cX4_grant 6 (some .boolean) 4 := ⟨kc_X4_grant, kini_X4, ⟨by decide +kernel, by decide +kernel⟩, by decide +kernel⟩
theorem fa_X4_may : gF yX4_may cX4_may 3 (some .boolean) 2 := ⟨kc_X4_may, kini_X4, ⟨by decide +kernel, by decide +kernel⟩, by decide +kernel⟩
theorem fa_X4_mayRun : gF yX4_mayRun cX4_mayRun 3 (some .boolean) 2 := ⟨kc_X4_mayRun, kini_X4, ⟨by decide +kernel, by decide +kernel⟩, by decide +kernel⟩
theorem fa_X4_floor : gF yX4_floor cX4_floor 7 (some .long) 3 := ⟨kc_X4_floor, kini_X4, ⟨by decide +kernel, by decide +kernel⟩, by decide +kernel⟩
theorem fa_X4_findPosts : gF yX4_findPosts cX4_findPosts 7 none 2 := ⟨kc_X4_findPosts, kini_X4, ⟨by decide +kernel, by decide +kernel⟩, by decide +kernel⟩
theorem fa_X4_run : gF yX4_run cX4_run 11 (some .boolean) 3 := ⟨kc_X4_run, kini_X4, ⟨by decide +kernel, by decide +kernel⟩, by decide +kernel⟩
theorem fa_X4_logged : gF yX4_logged cX4_logged 9 (some .long) 2 := ⟨kc_X4_logged, kini_X4, ⟨by decide +kernel, by decide +kernel⟩, by decide +kernel⟩
theorem fa_X4_isSound : gF yX4_isSound cX4_isSound 3 (some .boolean) 0 := ⟨kc_X4_isSound, kini_X4, ⟨by decide +kernel, by decide +kernel⟩, by decide +kernel⟩
theorem fa_X4_sound : gF yX4_sound cX4_sound 1 (some .boolean) 0 := ⟨kc_X4_sound, kini_X4, ⟨by decide +kernel, by decide +kernel⟩, by decide +kernel⟩
theorem fa_X4_enter : gF yX4_enter cX4_enter 7 (some .int) 5 := ⟨kc_X4_enter, kini_X4, ⟨by decide +kernel, by decide +kernel⟩, by decide +kernel⟩
theorem fa_X4_freeRequest : gF yX4_freeRequest cX4_freeRequest 3 (some .int) 0 := ⟨kc_X4_freeRequest, kini_X4, ⟨by decide +kernel, by decide +kernel⟩, by decide +kernel⟩
theorem fa_X4_request : gF yX4_request cX4_request 6 (some .int) 3 := ⟨kc_X4_request, kini_X4, ⟨by decide +kernel, by decide +kernel⟩, by decide +kernel⟩
theorem fa_X4_ask : gF yX4_ask cX4_ask 6 (some .int) 3 := ⟨kc_X4_ask, kini_X4, ⟨by decide +kernel, by decide +kernel⟩, by decide +kernel⟩
theorem fa_X4_isRequest : gF yX4_isRequest cX4_isRequest 2 (some .boolean) 1 := ⟨kc_X4_isRequest, kini_X4, ⟨by decide +kernel, by decide +kernel⟩, by decide +kernel⟩
theorem fa_X4_mayApprove : gF yX4_mayApprove cX4_mayApprove 3 (some .boolean) 2 := ⟨kc_X4_mayApprove, kini_X4, ⟨by decide +kernel, by decide +kernel⟩, by decide +kernel⟩
theorem fa_X4_approve : gF yX4_approve cX4_approve 4 (some .int) 2 := ⟨kc_X4_approve, kini_X4, ⟨by decide +kernel, by decide +kernel⟩, by decide +kernel⟩
theorem fa_X4_withdraw : gF yX4_withdraw cX4_withdraw 3 none 2 := ⟨kc_X4_withdraw, kini_X4, ⟨by decide +kernel, by decide +kernel⟩, by decide +kernel⟩
theorem fa_X4_isEntry : gF yX4_isEntry cX4_isEntry 2 (some .boolean) 1 := ⟨kc_X4_isEntry, kini_X4, ⟨by decide +kernel, by decide +kernel⟩, by decide +kernel⟩
theorem fa_X4_reverse : gF yX4_reverse cX4_reverse 4 (some .int) 2 := ⟨kc_X4_reverse, kini_X4, ⟨by decide +kernel, by decide +kernel⟩, by decide +kernel⟩
theorem fa_X4_tamper : gF yX4_tamper cX4_tamper 4 (some .long) 2 := ⟨kc_X4_tamper, kini_X4, ⟨by decide +kernel, by decide +kernel⟩, by decide +kernel⟩
theorem fa_X4_restore : gF yX4_restore cX4_restore 6 (some .int) 1 := ⟨kc_X4_restore, kini_X4, ⟨by decide +kernel, by decide +kernel⟩, by decide +kernel⟩
theorem fa_X4_balance : gF yX4_balance cX4_balance 2 (some .long) 1 := ⟨kc_X4_balance, kini_X4, ⟨by decide +kernel, by decide +kernel⟩, by decide +kernel⟩
theorem fa_X4_balanceAt : gF yX4_balanceAt cX4_balanceAt 3 (some .long) 2 := ⟨kc_X4_balanceAt, kini_X4, ⟨by decide +kernel, by decide +kernel⟩, by decide +kernel⟩
theorem fa_X4_entries : gF yX4_entries cX4_entries 1 (some .int) 0 := ⟨kc_X4_entries, kini_X4, ⟨by decide +kernel, by decide +kernel⟩, by decide +kernel⟩
theorem fa_X4_entry : gF yX4_entry cX4_entry 3 (some .int) 2 := ⟨kc_X4_entry, kini_X4, ⟨by decide +kernel, by decide +kernel⟩, by decide +kernel⟩
theorem fa_X4_amount : gF yX4_amount cX4_amount 2 (some .long) 1 := ⟨kc_X4_amount, kini_X4, ⟨by decide +kernel, by decide +kernel⟩, by decide +kernel⟩
theorem fa_X4_requested : gF yX4_requested cX4_requested 2 (some .int) 1 := ⟨kc_X4_requested, kini_X4, ⟨by decide +kernel, by decide +kernel⟩, by decide +kernel⟩
end
section
/-! words for what the methods compute -/
def gSh (x : Int32) : Prop := ¬ x < -100 ∧ ¬ 100 < x ∧ ¬ x = 0
def gsm (f : Nat → Int32) : Nat → Int32
  | 0 => 0
  | n + 1 => gsm f n + f n
def gq (amt : Int64) (f : Nat → Int32) (k : Nat) : Int64 := amt * (f k).toInt64 / 100
def gsq (amt : Int64) (f : Nat → Int32) : Nat → Int64
  | 0 => 0
  | n + 1 => gsq amt f n + gq amt f n
def gpo (amt : Int64) (f : Nat → Int32) (n k : Nat) : Int64 := if k + 1 = n then -(gsq amt f k) else gq amt f k
def gpw (amt : Int64) (f : Nat → Int32) (n : Nat) (v : Nat → Int64) : Nat → Int64 := fun k => if k < n then gpo amt f n k else v k
def gng (v : Nat → Int64) : Nat → Int64 := fun k => if k < 4 then -(v k) else v k
def gcn (b t : Nat → Int64) : Nat → Nat
  | 0 => 0
  | a + 1 => gcn b t a + (if b a = t a then 0 else 1)
theorem gcn_le (b t : Nat → Int64) : ∀ n, gcn b t n ≤ n
  | 0 => Nat.le_refl 0
  | n + 1 => by
    have := gcn_le b t n
    show gcn b t n + _ ≤ n + 1
    split <;> omega
def gdl (acc : Nat → Int32) (po : Nat → Int64) (a : Nat) : Nat → Int64
  | 0 => 0
  | n + 1 => gdl acc po a n + (if (acc n).toNatClampNeg = a then po n else 0)
def gfl (acc : Nat → Int32) (b fl po : Nat → Int64) (k : Nat) : Prop :=
  1000000000000 < b (acc k).toNatClampNeg + po k ∨ (b (acc k).toNatClampNeg + po k < fl (acc k).toNatClampNeg ∧ b (acc k).toNatClampNeg + po k < b (acc k).toNatClampNeg)
def gMR (np : Nat) (I : MI) (x y : Int32) : Prop := vp_in x 8 ∧ vp_in y np ∧ ¬ I (95 + 4 * y.toNatClampNeg) 3 = -1 ∧ ¬ I (95 + 4 * y.toNatClampNeg) 3 = x ∧ ¬ I (98 + 4 * y.toNatClampNeg) x.toNatClampNeg = 0
def gfq (f : Nat → Int32) : Nat := if f 0 = -1 then 0 else if f 1 = -1 then 1 else if f 2 = -1 then 2 else if f 3 = -1 then 3 else if f 4 = -1 then 4 else if f 5 = -1 then 5 else 6
theorem gfq_i {f : Nat → Int32} : ∀ i, i < 6 → (∀ k, k < i → ¬ f k = -1) → f i = -1 → gfq f = i
  | 0, _, _, h => by simp [gfq, h]
  | 1, _, h0, h => by simp [gfq, h, h0 0]
  | 2, _, h0, h => by simp [gfq, h, h0 0, h0 1]
  | 3, _, h0, h => by simp [gfq, h, h0 0, h0 1, h0 2]
  | 4, _, h0, h => by simp [gfq, h, h0 0, h0 1, h0 2, h0 3]
  | 5, _, h0, h => by simp [gfq, h, h0 0, h0 1, h0 2, h0 3, h0 4]
  | n + 6, hn, _, _ => absurd hn (by omega)
theorem gfq_6 {f : Nat → Int32} (h : ∀ k, k < 6 → ¬ f k = -1) : gfq f = 6 := by
  simp [gfq, h 0, h 1, h 2, h 3, h 4, h 5]
/-- behind a run's postings: balances and the totals' new row, i lines done -/
def gRL (L : ML) (acc : Nat → Int32) (t i : Nat) : ML := va_up (va_up L 1 (fun a => L 1 a + gdl acc (L 7) a i)) t (fun a => L t a + gdl acc (L 7) a i)
theorem MI_ext {f g : MI} (h : ∀ a b, f a b = g a b) : f = g := funext fun a => funext (h a)
theorem ML_ext {f g : ML} (h : ∀ a b, f a b = g a b) : f = g := funext fun a => funext (h a)
theorem gRL_0 (L : ML) (acc : Nat → Int32) (t : Nat) : gRL L acc t 0 = L := by
  apply ML_ext
  intro a b
  unfold gRL
  by_cases h1 : a = t
  · subst h1
    simp [va_up, gdl]
  · by_cases h2 : a = 1
    · subst h2
      simp [va_up, gdl, h1]
    · simp [va_up, h1, h2]
theorem gRL_s (L : ML) (acc : Nat → Int32) (t i a : Nat) (ht : t ≠ 1) (ht7 : t ≠ 7) (ha : (acc i).toNatClampNeg = a) :
    sL (sL (gRL L acc t i) 1 a (gRL L acc t i 1 a + gRL L acc t i 7 i)) t a (gRL L acc t i t a + gRL L acc t i 7 i) = gRL L acc t (i + 1) := by
  have h17 : ¬ (7 = t) := fun e => ht7 e.symm
  have h11 : ¬ (1 = t) := fun e => ht e.symm
  apply ML_ext
  intro c k
  rw [sL_at, sL_at]
  unfold gRL
  by_cases h1 : c = t
  · subst h1
    by_cases hk : k = a
    · subst hk
      simp [va_up, gdl, ha, h17, Int64.add_assoc]
    · simp [va_up, gdl, ha, hk, Ne.symm hk, ht]
  · by_cases h2 : c = 1
    · subst h2
      by_cases hk : k = a
      · subst hk
        simp [va_up, gdl, ha, h17, h1, Int64.add_assoc]
      · simp [va_up, gdl, ha, hk, Ne.symm hk, h1]
    · simp [va_up, h1, h2]
def gcp (L : ML) (j : Nat) : ML := va_up L (54 + (j + 1)) (fun k => if k < 8 then L (54 + j) k else L (54 + (j + 1)) k)
section CP
variable {p : Program} {l : Launch} {e : Env} {R : Room} {s : State} {m : MethodId} {args : Array Value} {below : List Frame} {meth : Method} {c : Code} {H : Heap} {locs : List Loc} {cells slots : Nat} {Q : State → Prop}
variable {cc : ByteArray} {nL : Nat} {own : String} {D : va_G} {cy : Nat → ClassId} {ad : Nat → Nat} {A : Nat → Prop} {I : MI} {L : ML} {pc : Nat} {ls : Array Slot} {rest : List Value}
theorem g_copyT (C : gC p s m args meth c cc nL own D cy ad A) (hP : gP D cy ad I L H) (hS : va_S A s.heap H locs) (hls : ls.size = nL) {index : Nat} (j : Nat) (hj : j + 1 < 41) (hl : Cond.methodLink own index arraycopyName ∈ WS) (hR : 1 ≤ R.frames ∧ 100 ≤ R.locals) (hcat : (rest.map fun v => v.category).sum ≤ 8) (hdg : decode cc pc = .ok (.invokestatic index, 3))
    (kk : ∀ (H1 : Heap) (locs1 : List Loc), gP D cy ad I (gcp L j) H1 → va_S A s.heap H1 locs1 → W p l e R s m args below meth c H1 locs1 cells slots Q (F0 m (pc + 3) ls rest)) : W p l e R s m args below meth c H locs cells slots Q (F0 m pc ls (.int 8 :: .int 0 :: .ref (ad (54 + (j + 1))) :: .int 0 :: .ref (ad (54 + j)) :: rest)) := by
  refine va_copyl (D := D) (cl := vwCl) (ty := .long) (n0 := 8) (n1 := 8) (f := L (54 + j)) (g := L (54 + (j + 1))) C.hx C.hb (C.hml.trans hls.symm) C.hown (C.hts _ hl) (C.hts _ knative_arraycopy) (C.hts _ kstatic_arraycopy) (C.hts _ kini_System) C.hK hP (C.hD.va I L) hS (54 + j) (54 + (j + 1)) 0 0
    (gw_k (by omega) (kd_T (by omega) _ _)) (gw_k (by omega) (kd_T hj _ _)) rfl rfl rfl (by decide) (by decide) (by decide) (by decide) (by decide) (fun i hi => rfl) hR.1 ?_ hdg (fun H1 locs1 hP1 _ hS1 => kk H1 locs1 ?_ hS1)
  · have h9 : nativeFrameWords "java/lang/System" "arraycopy" 5 + 11 ≤ 90 := by decide +kernel
    omega
  · rw [gw_set (I' := I) (L' := gcp L j) (by omega) ?_ (fun a h => rfl) (fun a h => va_up_ne _ _ h)] at hP1
    · exact hP1
    · rw [kd_T hj]
      congr 4
      unfold gcp
      rw [va_up_self]
      funext k
      show (if k < 8 then _ else _) = va_cpy _ _ (0 : Int32).toNatClampNeg (0 : Int32).toNatClampNeg (8 : Int32).toNatClampNeg k
      have e0 : (0 : Int32).toNatClampNeg = 0 := by decide
      have e8 : (8 : Int32).toNatClampNeg = 8 := by decide
      rw [e0, e8]
      unfold va_cpy
      simp
end CP
end
section
/-! what the class's loops compute -/
theorem gpw_end {L L1 : ML} {x : Int64} {f : Nat → Int32} {nn i : Nat} (hi : nn = i + 1) (hj : nn - 1 = i) (h0 : ∀ c, c ≠ 7 → L1 c = L c) (h1 : ∀ k, k < i → L1 7 k = gq x f k) (h2 : ∀ k, i ≤ k → L1 7 k = L 7 k) : va_up L 7 (gpw x f nn (L 7)) = sL L1 7 (nn - 1) (-(gsq x f i)) := by
  rw [hj]
  apply ML_ext
  intro c k
  rw [sL_at]
  by_cases hc : c = 7
  · subst hc
    unfold gpw gpo
    rw [va_up_self]
    by_cases e : k = i
    · subst e
      rw [if_pos (show k < nn by omega), if_pos (show k + 1 = nn by omega), if_pos ⟨rfl, rfl⟩]
    · rw [if_neg (show ¬ ((7 : Nat) = 7 ∧ k = i) from fun z => e z.2)]
      by_cases h : k < nn
      · rw [if_pos h, if_neg (show ¬ k + 1 = nn by omega)]
        exact (h1 k (by omega)).symm
      · rw [if_neg h]
        exact (h2 k (by omega)).symm
  · rw [if_neg (fun z => hc z.1), va_up_ne _ _ hc, h0 c hc]
theorem gpw_step {L1 : ML} {x : Int64} {f : Nat → Int32} {i : Nat} (h1 : ∀ k, k < i → L1 7 k = gq x f k) : ∀ k, k < i + 1 → sL L1 7 i (gq x f i) 7 k = gq x f k := fun k hk => by
  rw [sL_at]
  by_cases e : k = i
  · subst e
    rw [if_pos ⟨rfl, rfl⟩]
  · rw [if_neg (fun z => e z.2)]
    exact h1 k (by omega)
theorem gng_end {L L1 : ML} (h0 : ∀ c, c ≠ 7 → L1 c = L c) {i : Nat} (hi : i ≤ 4) (h4 : 4 ≤ i) (h1 : ∀ k, k < i → L1 7 k = -(L 7 k)) (h2 : ∀ k, i ≤ k → L1 7 k = L 7 k) : va_up L 7 (gng (L 7)) = L1 := by
  apply ML_ext
  intro c k
  by_cases hc : c = 7
  · subst hc
    rw [va_up_self]
    unfold gng
    by_cases h : k < 4
    · rw [if_pos h, h1 k (by omega)]
    · rw [if_neg h, h2 k (by omega)]
  · rw [va_up_ne _ _ hc, h0 c hc]
theorem gng_step {L L1 : ML} {i : Nat} (h1 : ∀ k, k < i → L1 7 k = -(L 7 k)) (h2 : ∀ k, i ≤ k → L1 7 k = L 7 k) : ∀ k, k < i + 1 → sL L1 7 i (-(L1 7 i)) 7 k = -(L 7 k) := fun k hk => by
  rw [sL_at]
  by_cases e : k = i
  · subst e
    rw [if_pos ⟨rfl, rfl⟩, h2 k (Nat.le_refl k)]
  · rw [if_neg (fun z => e z.2)]
    exact h1 k (by omega)
def gPW (L : ML) (amt : Int64) (f : Nat → Int32) (n : Nat) (x : Int32) : ML := if x = -1 then va_up L 7 (gpw amt f n (L 7)) else va_up L 7 (gng (gpw amt f n (L 7)))
theorem gPW_p {L : ML} {amt : Int64} {f : Nat → Int32} {n : Nat} {x : Int32} (h : x = -1) : va_up L 7 (gpw amt f n (L 7)) = gPW L amt f n x := (if_pos h).symm
theorem gPW_n {L : ML} {amt : Int64} {f : Nat → Int32} {n : Nat} {x : Int32} (h : ¬ x = -1) : va_up (va_up L 7 (gpw amt f n (L 7))) 7 (gng ((va_up L 7 (gpw amt f n (L 7))) 7)) = gPW L amt f n x := by
  unfold gPW
  rw [if_neg h, bx_uu, va_up_self]
theorem gb_nar {x : Int32} (h : x = 0 ∨ x = 1) : vp_nar .boolean x = x := by rcases h with rfl | rfl <;> rfl
def gRS (L : ML) (ne i : Nat) : ML := va_up L 1 (fun a => if a < i then L (54 + ne) a else L 1 a)
theorem gRS_0 (L : ML) (ne : Nat) : gRS L ne 0 = L := by
  apply ML_ext
  intro a b
  unfold gRS
  by_cases h : a = 1
  · subst h
    simp [va_up]
  · simp [va_up, h]
theorem gRS_s (L : ML) (ne i : Nat) (h : i < 2 ^ 31) : sL (gRS L ne i) 1 i (gRS L ne i (54 + ne) i) = gRS L ne (i + 1) := by
  apply ML_ext
  intro a b
  rw [sL_at]
  unfold gRS
  have h1 : ¬ (54 + ne = 1) := by omega
  by_cases ha : a = 1
  · subst ha
    rw [va_up_self, va_up_self, va_up_ne _ _ h1]
    by_cases hb : b = i
    · subst hb
      rw [if_pos ⟨rfl, rfl⟩, if_pos (Nat.lt_succ_self b)]
    · rw [if_neg (fun z => hb z.2)]
      by_cases hl : b < i
      · rw [if_pos hl, if_pos (Nat.lt_succ_of_lt hl)]
      · rw [if_neg hl, if_neg (by omega)]
  · rw [if_neg (fun z => ha z.1), va_up_ne _ _ ha, va_up_ne _ _ ha]
end
section
def pq_X3_isUser (x0 : Int32) (I : MI) (L : ML) : Int32 → MI → ML → Prop := fun r I' L' => (vp_in x0 8 ∧ 1 = r ∧ I = I' ∧ L = L') ∨ (¬ vp_in x0 8 ∧ 0 = r ∧ I = I' ∧ L = L')
set_option maxRecDepth 100000 in
set_option maxHeartbeats 4000000 in
theorem ct_X3_isUser (l : Launch) (D : va_G) (cy : Nat → ClassId) (ad : Nat → Nat) (hJ : gJ ad) (x0 : Int32) (I : MI) (L : ML) : gMi l D cy ad yX3_isUser cX3_isUser 1 .boolean (gR 5 0 0) [.int x0] I L (pq_X3_isUser x0 I L) := by
  refine gMi_of hJ (by decide +kernel) kc_X3_isUser (Nat.le_of_ble_eq_true rfl) (fun p e s m below meth c A ls C hr hP hS hl => ?_)
  have hx := C.hx
  have hb := C.hb
  have hl : lv_has ls 1 [(0, .int x0)] := hl
  refine lv_iload_n hx hb dX3_isUser_0 rfl (lv_at hl 0 rfl) ?_
  refine lv_if_lt (tgt := 14) hx hb dX3_isUser_1 (by decide) (fun c1 => ?_) (fun c1 => ?_)
  · refine lv_iconst (v := 0) hx hb dX3_isUser_14 (by decide) ?_
    exact gM_zret C hr narrow_b0 hP hS (by decide) (by decide) dX3_isUser_15 (Or.inr ⟨vpC c1, rfl, rfl, rfl⟩)  -- end 0: c1 : x0 < 0
  · refine lv_iload_n hx hb dX3_isUser_4 rfl (lv_at hl 0 rfl) ?_
    refine lv_bipush (v := 8) hx hb dX3_isUser_5 (by decide) ?_
    refine lv_icmp_ge (tgt := 14) hx hb dX3_isUser_7 (by decide) (fun c7 => ?_) (fun c7 => ?_)
    · refine lv_iconst (v := 0) hx hb dX3_isUser_14 (by decide) ?_
      exact gM_zret C hr narrow_b0 hP hS (by decide) (by decide) dX3_isUser_15 (Or.inr ⟨vpB c7 rfl, rfl, rfl, rfl⟩)  -- end 1: c1 : ¬ x0 < 0 ; c7 : 8 ≤ x0
    · refine lv_iconst (v := 1) hx hb dX3_isUser_10 (by decide) ?_
      refine lv_goto (tgt := 15) hx hb dX3_isUser_11 (by decide) ?_
      exact gM_zret C hr narrow_b1 hP hS (by decide) (by decide) dX3_isUser_15 (Or.inl ⟨vpA c1 c7 rfl, rfl, rfl, rfl⟩)  -- end 2: c1 : ¬ x0 < 0 ; c7 : ¬ 8 ≤ x0
def pq_X3_isProcedure (np : Nat) (x1 : Int32) (I : MI) (L : ML) : Int32 → MI → ML → Prop := fun r I' L' => (vp_in x1 np ∧ 1 = r ∧ I = I' ∧ L = L') ∨ (¬ vp_in x1 np ∧ 0 = r ∧ I = I' ∧ L = L')
set_option maxRecDepth 100000 in
set_option maxHeartbeats 4000000 in
theorem ct_X3_isProcedure (l : Launch) (D : va_G) (cy : Nat → ClassId) (ad : Nat → Nat) (hJ : gJ ad) (np : Nat) (x1 : Int32) (I : MI) (L : ML) (hnp : I 0 3 = nI np) (hnp10 : np ≤ 10) : gMi l D cy ad yX3_isProcedure cX3_isProcedure 2 .boolean (gR 5 0 0) [.ref (ad 0), .int x1] I L (pq_X3_isProcedure np x1 I L) := by
  refine gMi_of hJ (by decide +kernel) kc_X3_isProcedure (Nat.le_of_ble_eq_true rfl) (fun p e s m below meth c A ls C hr hP hS hl => ?_)
  have hx := C.hx
  have hb := C.hb
  have hl : lv_has ls 2 [(0, .ref (ad 0)), (1, .int x1)] := hl
  refine lv_iload_n hx hb dX3_isProcedure_0 rfl (lv_at hl 1 rfl) ?_
  refine lv_if_lt (tgt := 16) hx hb dX3_isProcedure_1 (by decide) (fun c1 => ?_) (fun c1 => ?_)
  · refine lv_iconst (v := 0) hx hb dX3_isProcedure_16 (by decide) ?_
    exact gM_zret C hr narrow_b0 hP hS (by decide) (by decide) dX3_isProcedure_17 (Or.inr ⟨vpC c1, rfl, rfl, rfl⟩)  -- end 0: c1 : x1 < 0
  · refine lv_iload_n hx hb dX3_isProcedure_4 rfl (lv_at hl 1 rfl) ?_
    refine lv_aload_n hx hb dX3_isProcedure_5 rfl (lv_at hl 0 rfl) ?_
    refine g_get (v := .int (nI np)) (T := TX3) C hP 0 3 (by decide) rfl rfl inwX3 (by decide) kf_X3_22 (congrArg (fun z => some (Value.int z)) hnp) dX3_isProcedure_6 ?_
    refine lv_icmp_ge (tgt := 16) hx hb dX3_isProcedure_9 (by decide) (fun c9 => ?_) (fun c9 => ?_)
    · refine lv_iconst (v := 0) hx hb dX3_isProcedure_16 (by decide) ?_
      exact gM_zret C hr narrow_b0 hP hS (by decide) (by decide) dX3_isProcedure_17 (Or.inr ⟨vpB c9 (nI_toInt (by omega)), rfl, rfl, rfl⟩)  -- end 1: c1 : ¬ x1 < 0 ; c9 : (nI np) ≤ x1
    · refine lv_iconst (v := 1) hx hb dX3_isProcedure_12 (by decide) ?_
      refine lv_goto (tgt := 17) hx hb dX3_isProcedure_13 (by decide) ?_
      exact gM_zret C hr narrow_b1 hP hS (by decide) (by decide) dX3_isProcedure_17 (Or.inl ⟨vpA c1 c9 (nI_toInt (by omega)), rfl, rfl, rfl⟩)  -- end 2: c1 : ¬ x1 < 0 ; c9 : ¬ (nI np) ≤ x1
def pq_X3_isBeyondLimit (x0 : Int64) (I : MI) (L : ML) : Int32 → MI → ML → Prop := fun r I' L' => (x0 < (-1000000000000) ∧ (1 : Int32) = r ∧ I = I' ∧ L = L') ∨ (¬ x0 < (-1000000000000) ∧ x0 ≤ 1000000000000 ∧ (0 : Int32) = r ∧ I = I' ∧ L = L') ∨ (¬ x0 < (-1000000000000) ∧ ¬ x0 ≤ 1000000000000 ∧ (1 : Int32) = r ∧ I = I' ∧ L = L')
set_option maxRecDepth 100000 in
set_option maxHeartbeats 4000000 in
theorem ct_X3_isBeyondLimit (l : Launch) (D : va_G) (cy : Nat → ClassId) (ad : Nat → Nat) (hJ : gJ ad) (x0 : Int64) (I : MI) (L : ML) : gMi l D cy ad yX3_isBeyondLimit cX3_isBeyondLimit 2 .boolean (gR 5 0 0) [.long x0] I L (pq_X3_isBeyondLimit x0 I L) := by
  refine gMi_of hJ (by decide +kernel) kc_X3_isBeyondLimit (Nat.le_of_ble_eq_true rfl) (fun p e s m below meth c A ls C hr hP hS hl => ?_)
  have hx := C.hx
  have hb := C.hb
  have hl : lv_has ls 2 [(0, .long x0)] := hl
  refine lv_lload_n hx hb dX3_isBeyondLimit_0 rfl (lv_at hl 0 rfl) ?_
  refine lv_ldc2 (v := (-1000000000000)) hx hb C.hown (C.hts _ kcn_X3_49) dX3_isBeyondLimit_1 ?_
  refine W.lcmp hx hb dX3_isBeyondLimit_4 ?_
  refine lv_if_lt (tgt := 16) hx hb dX3_isBeyondLimit_5 (by decide) (fun c5 => ?_) (fun c5 => ?_)
  · have n5 : x0 < (-1000000000000) := (lg_cmp_lt _ _).mp c5
    refine lv_iconst (v := 1) hx hb dX3_isBeyondLimit_16 (by decide) ?_
    refine lv_goto (tgt := 21) hx hb dX3_isBeyondLimit_17 (by decide) ?_
    exact gM_zret C hr narrow_b1 hP hS (by decide) (by decide) dX3_isBeyondLimit_21 (Or.inl (⟨n5, rfl, rfl, rfl⟩))
  · have n5 : ¬ x0 < (-1000000000000) := (not_congr (lg_cmp_lt _ _)).mp c5
    refine lv_lload_n hx hb dX3_isBeyondLimit_8 rfl (lv_at hl 0 rfl) ?_
    refine lv_ldc2 (v := 1000000000000) hx hb C.hown (C.hts _ kcn_X3_249) dX3_isBeyondLimit_9 ?_
    refine W.lcmp hx hb dX3_isBeyondLimit_12 ?_
    refine lv_if_le (tgt := 20) hx hb dX3_isBeyondLimit_13 (by decide) (fun c13 => ?_) (fun c13 => ?_)
    · have n13 : x0 ≤ 1000000000000 := (lg_cmp_le _ _).mp c13
      refine lv_iconst (v := 0) hx hb dX3_isBeyondLimit_20 (by decide) ?_
      exact gM_zret C hr narrow_b0 hP hS (by decide) (by decide) dX3_isBeyondLimit_21 (Or.inr (Or.inl (⟨n5, n13, rfl, rfl, rfl⟩)))
    · have n13 : ¬ x0 ≤ 1000000000000 := (not_congr (lg_cmp_le _ _)).mp c13
      refine lv_iconst (v := 1) hx hb dX3_isBeyondLimit_16 (by decide) ?_
      refine lv_goto (tgt := 21) hx hb dX3_isBeyondLimit_17 (by decide) ?_
      exact gM_zret C hr narrow_b1 hP hS (by decide) (by decide) dX3_isBeyondLimit_21 (Or.inr (Or.inr (⟨n5, n13, rfl, rfl, rfl⟩)))
def pq_X3_requireAccount (x0 : Int32) (I : MI) (L : ML) : MI → ML → Prop := fun I' L' => vp_in x0 8 ∧ I = I' ∧ L = L'
def px_X3_requireAccount (x0 : Int32) (I : MI) (L : ML) : String → MI → ML → Prop := fun E I' L' => (¬ vp_in x0 8 ∧ xIO = E ∧ I = I' ∧ L = L')
set_option maxRecDepth 100000 in
set_option maxHeartbeats 4000000 in
theorem ct_X3_requireAccount (l : Launch) (D : va_G) (cy : Nat → ClassId) (ad : Nat → Nat) (hJ : gJ ad) (hlf : l.stackTraces = false) (x0 : Int32) (I : MI) (L : ML) : gTv l D cy ad yX3_requireAccount cX3_requireAccount 1 (gR 4 1 6) [.int x0] I L (pq_X3_requireAccount x0 I L) (px_X3_requireAccount x0 I L) := by
  refine gTv_of hJ (by decide +kernel) kc_X3_requireAccount (Nat.le_of_ble_eq_true rfl) (fun p e s m below meth c A ls C hr ht hP hS hl => ?_)
  have hx := C.hx
  have hb := C.hb
  have hl : lv_has ls 1 [(0, .int x0)] := hl
  refine lv_iload_n hx hb dX3_requireAccount_0 rfl (lv_at hl 0 rfl) ?_
  refine lv_if_lt (tgt := 10) hx hb dX3_requireAccount_1 (by decide) (fun c1 => ?_) (fun c1 => ?_)
  · exact g_throwSW (cls := xIO) C hlf hP hS hl.1 (by decide) kcl_X3_194 kini_IndexOutOfBoundsException ks_265 gat_198 gan_198 gao_198 dX3_requireAccount_10 dX3_requireAccount_13 dX3_requireAccount_14 dX3_requireAccount_17 dX3_requireAccount_20 ht (by decide) (by decide) (by decide) (by decide) (by decide) ⟨vpC c1, rfl, rfl, rfl⟩
  · refine lv_iload_n hx hb dX3_requireAccount_4 rfl (lv_at hl 0 rfl) ?_
    refine lv_bipush (v := 8) hx hb dX3_requireAccount_5 (by decide) ?_
    refine lv_icmp_lt (tgt := 21) hx hb dX3_requireAccount_7 (by decide) (fun c7 => ?_) (fun c7 => ?_)
    · exact gT_vret C hr hP hS (by decide) (by decide) dX3_requireAccount_21 (⟨vpA2 c1 c7 rfl, rfl, rfl⟩)  -- end 0: c1 : ¬ x0 < 0 ; c7 : x0 < 8
    · exact g_throwSW (cls := xIO) C hlf hP hS hl.1 (by decide) kcl_X3_194 kini_IndexOutOfBoundsException ks_265 gat_198 gan_198 gao_198 dX3_requireAccount_10 dX3_requireAccount_13 dX3_requireAccount_14 dX3_requireAccount_17 dX3_requireAccount_20 ht (by decide) (by decide) (by decide) (by decide) (by decide) ⟨vpB2 c7 rfl, rfl, rfl, rfl⟩
def pq_X3_requireUser (x0 : Int32) (I : MI) (L : ML) : MI → ML → Prop := fun I' L' => vp_in x0 8 ∧ I = I' ∧ L = L'
def px_X3_requireUser (x0 : Int32) (I : MI) (L : ML) : String → MI → ML → Prop := fun E I' L' => (¬ vp_in x0 8 ∧ xIO = E ∧ I = I' ∧ L = L')
set_option maxRecDepth 100000 in
set_option maxHeartbeats 4000000 in
theorem ct_X3_requireUser (l : Launch) (D : va_G) (cy : Nat → ClassId) (ad : Nat → Nat) (hJ : gJ ad) (hlf : l.stackTraces = false) (x0 : Int32) (I : MI) (L : ML) : gTv l D cy ad yX3_requireUser cX3_requireUser 1 (gR 4 1 6) [.int x0] I L (pq_X3_requireUser x0 I L) (px_X3_requireUser x0 I L) := by
  refine gTv_of hJ (by decide +kernel) kc_X3_requireUser (Nat.le_of_ble_eq_true rfl) (fun p e s m below meth c A ls C hr ht hP hS hl => ?_)
  have hx := C.hx
  have hb := C.hb
  have hl : lv_has ls 1 [(0, .int x0)] := hl
  refine lv_iload_n hx hb dX3_requireUser_0 rfl (lv_at hl 0 rfl) ?_
  refine gM_callSi (As := [.int x0]) (rest := []) C hP hS hl.1 (ct_X3_isUser l D cy ad hJ x0 I L) fa_X3_isUser kl_X3_206 kst_X3_isUser rfl (by decide) (Nat.le_of_ble_eq_true rfl) (by decide) dX3_requireUser_1 rfl (fun r1 I1 L1 H locs hq hP hS => ?_)
  rcases hq with ⟨h1_0, rfl, rfl, rfl⟩ | ⟨h1_0, rfl, rfl, rfl⟩
  · obtain ⟨e1_0, l1_0⟩ := vp_ix h1_0
    refine lv_if_ne (tgt := 18) hx hb dX3_requireUser_4 (by decide) (fun c => ?_) (fun c => absurd c (by decide))
    exact gT_vret C hr hP hS (by decide) (by decide) dX3_requireUser_18 (⟨h1_0, rfl, rfl⟩)  -- end 0: h1_0 : vp_in x0 8
  · refine lv_if_ne (tgt := 18) hx hb dX3_requireUser_4 (by decide) (fun c => absurd c (by decide)) (fun c => ?_)
    exact g_throwSW (cls := xIO) C hlf hP hS hl.1 (by decide) kcl_X3_194 kini_IndexOutOfBoundsException ks_267 gat_198 gan_198 gao_198 dX3_requireUser_7 dX3_requireUser_10 dX3_requireUser_11 dX3_requireUser_14 dX3_requireUser_17 ht (by decide) (by decide) (by decide) (by decide) (by decide) ⟨h1_0, rfl, rfl, rfl⟩
def pq_X3_requireOfficer (x0 : Int32) (I : MI) (L : ML) : MI → ML → Prop := fun I' L' => (x0 < 2 ∧ I = I' ∧ L = L')
def px_X3_requireOfficer (x0 : Int32) (I : MI) (L : ML) : String → MI → ML → Prop := fun E I' L' => (¬ x0 < 2 ∧ xUO = E ∧ I = I' ∧ L = L')
set_option maxRecDepth 100000 in
set_option maxHeartbeats 4000000 in
theorem ct_X3_requireOfficer (l : Launch) (D : va_G) (cy : Nat → ClassId) (ad : Nat → Nat) (hJ : gJ ad) (hlf : l.stackTraces = false) (x0 : Int32) (I : MI) (L : ML) : gTv l D cy ad yX3_requireOfficer cX3_requireOfficer 1 (gR 4 1 6) [.int x0] I L (pq_X3_requireOfficer x0 I L) (px_X3_requireOfficer x0 I L) := by
  refine gTv_of hJ (by decide +kernel) kc_X3_requireOfficer (Nat.le_of_ble_eq_true rfl) (fun p e s m below meth c A ls C hr ht hP hS hl => ?_)
  have hx := C.hx
  have hb := C.hb
  have hl : lv_has ls 1 [(0, .int x0)] := hl
  refine lv_iload_n hx hb dX3_requireOfficer_0 rfl (lv_at hl 0 rfl) ?_
  refine lv_iconst (v := 2) hx hb dX3_requireOfficer_1 (by decide) ?_
  refine lv_icmp_lt (tgt := 16) hx hb dX3_requireOfficer_2 (by decide) (fun c2 => ?_) (fun c2 => ?_)
  · exact gT_vret C hr hP hS (by decide) (by decide) dX3_requireOfficer_16 (⟨c2, rfl, rfl⟩)
  · exact g_throwSW (cls := xUO) C hlf hP hS hl.1 (by decide) kcl_X3_108 kini_UnsupportedOperationException ks_269 gat_112 gan_112 gao_112 dX3_requireOfficer_5 dX3_requireOfficer_8 dX3_requireOfficer_9 dX3_requireOfficer_12 dX3_requireOfficer_15 ht (by decide) (by decide) (by decide) (by decide) (by decide) (⟨c2, rfl, rfl, rfl⟩)
def pq_X3_requireShare (x0 : Int32) (I : MI) (L : ML) : MI → ML → Prop := fun I' L' => gSh x0 ∧ I = I' ∧ L = L'
def px_X3_requireShare (x0 : Int32) (I : MI) (L : ML) : String → MI → ML → Prop := fun E I' L' => (¬ gSh x0 ∧ xIA = E ∧ I = I' ∧ L = L')
set_option maxRecDepth 100000 in
set_option maxHeartbeats 4000000 in
theorem ct_X3_requireShare (l : Launch) (D : va_G) (cy : Nat → ClassId) (ad : Nat → Nat) (hJ : gJ ad) (hlf : l.stackTraces = false) (x0 : Int32) (I : MI) (L : ML) : gTv l D cy ad yX3_requireShare cX3_requireShare 1 (gR 4 1 6) [.int x0] I L (pq_X3_requireShare x0 I L) (px_X3_requireShare x0 I L) := by
  refine gTv_of hJ (by decide +kernel) kc_X3_requireShare (Nat.le_of_ble_eq_true rfl) (fun p e s m below meth c A ls C hr ht hP hS hl => ?_)
  have hx := C.hx
  have hb := C.hb
  have hl : lv_has ls 1 [(0, .int x0)] := hl
  refine lv_iload_n hx hb dX3_requireShare_0 rfl (lv_at hl 0 rfl) ?_
  refine lv_bipush (v := (-100)) hx hb dX3_requireShare_1 (by decide) ?_
  refine lv_icmp_lt (tgt := 16) hx hb dX3_requireShare_3 (by decide) (fun c3 => ?_) (fun c3 => ?_)
  · exact g_throwSW (cls := xIA) C hlf hP hS hl.1 (by decide) kcl_X3_79 kini_IllegalArgumentException ks_271 gat_83 gan_83 gao_83 dX3_requireShare_16 dX3_requireShare_19 dX3_requireShare_20 dX3_requireShare_23 dX3_requireShare_26 ht (by decide) (by decide) (by decide) (by decide) (by decide) ⟨fun h => h.1 c3, rfl, rfl, rfl⟩
  · refine lv_iload_n hx hb dX3_requireShare_6 rfl (lv_at hl 0 rfl) ?_
    refine lv_bipush (v := 100) hx hb dX3_requireShare_7 (by decide) ?_
    refine lv_icmp_gt (tgt := 16) hx hb dX3_requireShare_9 (by decide) (fun c9 => ?_) (fun c9 => ?_)
    · exact g_throwSW (cls := xIA) C hlf hP hS hl.1 (by decide) kcl_X3_79 kini_IllegalArgumentException ks_271 gat_83 gan_83 gao_83 dX3_requireShare_16 dX3_requireShare_19 dX3_requireShare_20 dX3_requireShare_23 dX3_requireShare_26 ht (by decide) (by decide) (by decide) (by decide) (by decide) ⟨fun h => h.2.1 c9, rfl, rfl, rfl⟩
    · refine lv_iload_n hx hb dX3_requireShare_12 rfl (lv_at hl 0 rfl) ?_
      refine lv_if_ne (tgt := 27) hx hb dX3_requireShare_13 (by decide) (fun c13 => ?_) (fun c13 => ?_)
      · exact gT_vret C hr hP hS (by decide) (by decide) dX3_requireShare_27 (⟨⟨c3, c9, c13⟩, rfl, rfl⟩)  -- end 0: c3 : ¬ x0 < (-100) ; c9 : ¬ 100 < x0 ; c13 : ¬ x0 = 0
      · exact g_throwSW (cls := xIA) C hlf hP hS hl.1 (by decide) kcl_X3_79 kini_IllegalArgumentException ks_271 gat_83 gan_83 gao_83 dX3_requireShare_16 dX3_requireShare_19 dX3_requireShare_20 dX3_requireShare_23 dX3_requireShare_26 ht (by decide) (by decide) (by decide) (by decide) (by decide) ⟨fun h => h.2.2 c13, rfl, rfl, rfl⟩
def pq_X3_requireProcedure (np : Nat) (x1 : Int32) (I : MI) (L : ML) : MI → ML → Prop := fun I' L' => vp_in x1 np ∧ I = I' ∧ L = L'
def px_X3_requireProcedure (np : Nat) (x1 : Int32) (I : MI) (L : ML) : String → MI → ML → Prop := fun E I' L' => (¬ vp_in x1 np ∧ xIO = E ∧ I = I' ∧ L = L')
set_option maxRecDepth 100000 in
set_option maxHeartbeats 4000000 in
theorem ct_X3_requireProcedure (l : Launch) (D : va_G) (cy : Nat → ClassId) (ad : Nat → Nat) (hJ : gJ ad) (hlf : l.stackTraces = false) (np : Nat) (x1 : Int32) (I : MI) (L : ML) (hnp : I 0 3 = nI np) (hnp10 : np ≤ 10) : gTv l D cy ad yX3_requireProcedure cX3_requireProcedure 2 (gR 4 1 6) [.ref (ad 0), .int x1] I L (pq_X3_requireProcedure np x1 I L) (px_X3_requireProcedure np x1 I L) := by
  refine gTv_of hJ (by decide +kernel) kc_X3_requireProcedure (Nat.le_of_ble_eq_true rfl) (fun p e s m below meth c A ls C hr ht hP hS hl => ?_)
  have hx := C.hx
  have hb := C.hb
  have hl : lv_has ls 2 [(0, .ref (ad 0)), (1, .int x1)] := hl
  refine lv_aload_n hx hb dX3_requireProcedure_0 rfl (lv_at hl 0 rfl) ?_
  refine lv_iload_n hx hb dX3_requireProcedure_1 rfl (lv_at hl 1 rfl) ?_
  refine gM_callVi (As := [.int x1]) (rest := []) C hP hS hl.1 (ct_X3_isProcedure l D cy ad hJ np x1 I L hnp hnp10) fa_X3_isProcedure kl_X3_209 ki_X3_isProcedure kse_X3_isProcedure (by decide) (T := TX3) rfl rfl rfl (by decide) (Nat.le_of_ble_eq_true rfl) (by decide) dX3_requireProcedure_2 rfl (fun r2 I2 L2 H locs hq hP hS => ?_)
  rcases hq with ⟨h2_0, rfl, rfl, rfl⟩ | ⟨h2_0, rfl, rfl, rfl⟩
  · obtain ⟨e2_0, l2_0⟩ := vp_ix h2_0
    refine lv_if_ne (tgt := 19) hx hb dX3_requireProcedure_5 (by decide) (fun c => ?_) (fun c => absurd c (by decide))
    exact gT_vret C hr hP hS (by decide) (by decide) dX3_requireProcedure_19 (⟨h2_0, rfl, rfl⟩)  -- end 0: h2_0 : vp_in x1 np
  · refine lv_if_ne (tgt := 19) hx hb dX3_requireProcedure_5 (by decide) (fun c => absurd c (by decide)) (fun c => ?_)
    exact g_throwSW (cls := xIO) C hlf hP hS hl.1 (by decide) kcl_X3_194 kini_IndexOutOfBoundsException ks_259 gat_198 gan_198 gao_198 dX3_requireProcedure_8 dX3_requireProcedure_11 dX3_requireProcedure_12 dX3_requireProcedure_15 dX3_requireProcedure_18 ht (by decide) (by decide) (by decide) (by decide) (by decide) ⟨h2_0, rfl, rfl, rfl⟩
def pq_X3_requireEntry (ne : Nat) (x1 : Int32) (I : MI) (L : ML) : MI → ML → Prop := fun I' L' => vp_in x1 ne ∧ I = I' ∧ L = L'
def px_X3_requireEntry (ne : Nat) (x1 : Int32) (I : MI) (L : ML) : String → MI → ML → Prop := fun E I' L' => (¬ vp_in x1 ne ∧ xIO = E ∧ I = I' ∧ L = L')
set_option maxRecDepth 100000 in
set_option maxHeartbeats 4000000 in
theorem ct_X3_requireEntry (l : Launch) (D : va_G) (cy : Nat → ClassId) (ad : Nat → Nat) (hJ : gJ ad) (hlf : l.stackTraces = false) (ne : Nat) (x1 : Int32) (I : MI) (L : ML) (hne : I 0 6 = nI ne) (hne40 : ne ≤ 40) : gTv l D cy ad yX3_requireEntry cX3_requireEntry 2 (gR 4 1 6) [.ref (ad 0), .int x1] I L (pq_X3_requireEntry ne x1 I L) (px_X3_requireEntry ne x1 I L) := by
  refine gTv_of hJ (by decide +kernel) kc_X3_requireEntry (Nat.le_of_ble_eq_true rfl) (fun p e s m below meth c A ls C hr ht hP hS hl => ?_)
  have hx := C.hx
  have hb := C.hb
  have hl : lv_has ls 2 [(0, .ref (ad 0)), (1, .int x1)] := hl
  refine lv_iload_n hx hb dX3_requireEntry_0 rfl (lv_at hl 1 rfl) ?_
  refine lv_if_lt (tgt := 12) hx hb dX3_requireEntry_1 (by decide) (fun c1 => ?_) (fun c1 => ?_)
  · exact g_throwSW (cls := xIO) C hlf hP hS hl.1 (by decide) kcl_X3_194 kini_IndexOutOfBoundsException ks_263 gat_198 gan_198 gao_198 dX3_requireEntry_12 dX3_requireEntry_15 dX3_requireEntry_16 dX3_requireEntry_19 dX3_requireEntry_22 ht (by decide) (by decide) (by decide) (by decide) (by decide) ⟨vpC c1, rfl, rfl, rfl⟩
  · refine lv_iload_n hx hb dX3_requireEntry_4 rfl (lv_at hl 1 rfl) ?_
    refine lv_aload_n hx hb dX3_requireEntry_5 rfl (lv_at hl 0 rfl) ?_
    refine g_get (v := .int (nI ne)) (T := TX3) C hP 0 6 (by decide) rfl rfl inwX3 (by decide) kf_X3_38 (congrArg (fun z => some (Value.int z)) hne) dX3_requireEntry_6 ?_
    refine lv_icmp_lt (tgt := 23) hx hb dX3_requireEntry_9 (by decide) (fun c9 => ?_) (fun c9 => ?_)
    · exact gT_vret C hr hP hS (by decide) (by decide) dX3_requireEntry_23 (⟨vpA2 c1 c9 (nI_toInt (by omega)), rfl, rfl⟩)  -- end 0: c1 : ¬ x1 < 0 ; c9 : x1 < (nI ne)
    · exact g_throwSW (cls := xIO) C hlf hP hS hl.1 (by decide) kcl_X3_194 kini_IndexOutOfBoundsException ks_263 gat_198 gan_198 gao_198 dX3_requireEntry_12 dX3_requireEntry_15 dX3_requireEntry_16 dX3_requireEntry_19 dX3_requireEntry_22 ht (by decide) (by decide) (by decide) (by decide) (by decide) ⟨vpB2 c9 (nI_toInt (by omega)), rfl, rfl, rfl⟩
def pq_X2_isInUse (qq : Nat) (I : MI) (L : ML) : Int32 → MI → ML → Prop := fun r I' L' => ((I (8 + qq) 0) = (-1) ∧ (0 : Int32) = r ∧ I = I' ∧ L = L') ∨ (¬ (I (8 + qq) 0) = (-1) ∧ (1 : Int32) = r ∧ I = I' ∧ L = L')
set_option maxRecDepth 100000 in
set_option maxHeartbeats 4000000 in
theorem ct_X2_isInUse (l : Launch) (D : va_G) (cy : Nat → ClassId) (ad : Nat → Nat) (hJ : gJ ad) (qq : Nat) (I : MI) (L : ML) (hq : qq < 6) : gMi l D cy ad yX2_isInUse cX2_isInUse 1 .boolean (gR 5 0 0) [.ref (ad (8 + qq))] I L (pq_X2_isInUse qq I L) := by
  refine gMi_of hJ (by decide +kernel) kc_X2_isInUse (Nat.le_of_ble_eq_true rfl) (fun p e s m below meth c A ls C hr hP hS hl => ?_)
  have hx := C.hx
  have hb := C.hb
  have hl : lv_has ls 1 [(0, .ref (ad (8 + qq)))] := hl
  refine lv_aload_n hx hb dX2_isInUse_0 rfl (lv_at hl 0 rfl) ?_
  refine g_get (v := .int (I (8 + qq) 0)) (T := TX2) C hP (8 + qq) 0 (by omega) (kd_Q hq _ _) rfl inwX2 (by decide) kf_X2_9 rfl dX2_isInUse_1 ?_
  refine lv_iconst (v := (-1)) hx hb dX2_isInUse_4 (by decide) ?_
  refine lv_icmp_eq (tgt := 12) hx hb dX2_isInUse_5 (by decide) (fun c5 => ?_) (fun c5 => ?_)
  · refine lv_iconst (v := 0) hx hb dX2_isInUse_12 (by decide) ?_
    exact gM_zret C hr narrow_b0 hP hS (by decide) (by decide) dX2_isInUse_13 (Or.inl (⟨c5, rfl, rfl, rfl⟩))
  · refine lv_iconst (v := 1) hx hb dX2_isInUse_8 (by decide) ?_
    refine lv_goto (tgt := 13) hx hb dX2_isInUse_9 (by decide) ?_
    exact gM_zret C hr narrow_b1 hP hS (by decide) (by decide) dX2_isInUse_13 (Or.inr (⟨c5, rfl, rfl, rfl⟩))
def pq_X2_clear (qq : Nat) (I : MI) (L : ML) : MI → ML → Prop := fun I' L' => ((sI I (8 + qq) 0 (-1)) = I' ∧ L = L')
set_option maxRecDepth 100000 in
set_option maxHeartbeats 4000000 in
theorem ct_X2_clear (l : Launch) (D : va_G) (cy : Nat → ClassId) (ad : Nat → Nat) (hJ : gJ ad) (qq : Nat) (I : MI) (L : ML) (hq : qq < 6) : gMv l D cy ad yX2_clear cX2_clear 1 (gR 5 0 0) [.ref (ad (8 + qq))] I L (pq_X2_clear qq I L) := by
  refine gMv_of hJ (by decide +kernel) kc_X2_clear (Nat.le_of_ble_eq_true rfl) (fun p e s m below meth c A ls C hr hP hS hl => ?_)
  have hx := C.hx
  have hb := C.hb
  have hl : lv_has ls 1 [(0, .ref (ad (8 + qq)))] := hl
  refine lv_aload_n hx hb dX2_clear_0 rfl (lv_at hl 0 rfl) ?_
  refine lv_iconst (v := (-1)) hx hb dX2_clear_1 (by decide) ?_
  refine g_putI (T := TX2) C hP hS (8 + qq) 0 (by omega) (kd_Q hq _ _) rfl inwX2 tyX2 tyX2_ok nmX2 (by decide) kf_X2_9 rfl rfl (by decide : 0 < 3) ((kd_Q hq _ _).trans (by simp only [sI, va_up_self]; rfl)) dX2_clear_2 (fun H locs hP hS => ?_)
  exact gM_vret C hr hP hS (by decide) (by decide) dX2_clear_5 (⟨rfl, rfl⟩)
def pq_X2_fill (qq : Nat) (x1 : Int32) (x2 : Int32) (x3 : Int64) (I : MI) (L : ML) : MI → ML → Prop := fun I' L' => ((sI (sI I (8 + qq) 0 x1) (8 + qq) 1 x2) = I' ∧ (sL L (8 + qq) 2 x3) = L')
set_option maxRecDepth 100000 in
set_option maxHeartbeats 4000000 in
theorem ct_X2_fill (l : Launch) (D : va_G) (cy : Nat → ClassId) (ad : Nat → Nat) (hJ : gJ ad) (qq : Nat) (x1 : Int32) (x2 : Int32) (x3 : Int64) (I : MI) (L : ML) (hq : qq < 6) : gMv l D cy ad yX2_fill cX2_fill 5 (gR 5 0 0) [.ref (ad (8 + qq)), .int x1, .int x2, .long x3] I L (pq_X2_fill qq x1 x2 x3 I L) := by
  refine gMv_of hJ (by decide +kernel) kc_X2_fill (Nat.le_of_ble_eq_true rfl) (fun p e s m below meth c A ls C hr hP hS hl => ?_)
  have hx := C.hx
  have hb := C.hb
  have hl : lv_has ls 5 [(0, .ref (ad (8 + qq))), (1, .int x1), (2, .int x2), (3, .long x3)] := hl
  refine lv_aload_n hx hb dX2_fill_0 rfl (lv_at hl 0 rfl) ?_
  refine lv_iload_n hx hb dX2_fill_1 rfl (lv_at hl 1 rfl) ?_
  refine g_putI (T := TX2) C hP hS (8 + qq) 0 (by omega) (kd_Q hq _ _) rfl inwX2 tyX2 tyX2_ok nmX2 (by decide) kf_X2_9 rfl rfl (by decide : 0 < 3) ((kd_Q hq _ _).trans (by simp only [sI, va_up_self]; rfl)) dX2_fill_2 (fun H locs hP hS => ?_)
  refine lv_aload_n hx hb dX2_fill_5 rfl (lv_at hl 0 rfl) ?_
  refine lv_iload_n hx hb dX2_fill_6 rfl (lv_at hl 2 rfl) ?_
  refine g_putI (T := TX2) C hP hS (8 + qq) 1 (by omega) (kd_Q hq _ _) rfl inwX2 tyX2 tyX2_ok nmX2 (by decide) kf_X2_15 rfl rfl (by decide : 1 < 3) ((kd_Q hq _ _).trans (by simp only [sI, va_up_self]; rfl)) dX2_fill_7 (fun H locs hP hS => ?_)
  refine lv_aload_n hx hb dX2_fill_10 rfl (lv_at hl 0 rfl) ?_
  refine lv_lload_n hx hb dX2_fill_11 rfl (lv_at hl 3 rfl) ?_
  refine g_putL (T := TX2) C hP hS (8 + qq) 2 (by omega) (kd_Q hq _ _) rfl inwX2 tyX2 tyX2_ok nmX2 (by decide) kf_X2_18 rfl rfl (by decide : 2 < 3) ((kd_Q hq _ _).trans (by simp only [sL, va_up_self]; rfl)) dX2_fill_12 (fun H locs hP hS => ?_)
  exact gM_vret C hr hP hS (by decide) (by decide) dX2_fill_15 (⟨rfl, rfl⟩)
def pq_X0_fill (e0 : Nat) (x1 : Int32) (x2 : Int64) (x4 : Int32) (x5 : Int32) (x6 : Int32) (I : MI) (L : ML) : MI → ML → Prop := fun I' L' => ((sI (sI (sI (sI I (14 + e0) 0 x1) (14 + e0) 2 x4) (14 + e0) 3 x5) (14 + e0) 4 x6) = I' ∧ (sL L (14 + e0) 1 x2) = L')
set_option maxRecDepth 100000 in
set_option maxHeartbeats 4000000 in
theorem ct_X0_fill (l : Launch) (D : va_G) (cy : Nat → ClassId) (ad : Nat → Nat) (hJ : gJ ad) (e0 : Nat) (x1 : Int32) (x2 : Int64) (x4 : Int32) (x5 : Int32) (x6 : Int32) (I : MI) (L : ML) (he : e0 < 40) : gMv l D cy ad yX0_fill cX0_fill 7 (gR 5 0 0) [.ref (ad (14 + e0)), .int x1, .long x2, .int x4, .int x5, .int x6] I L (pq_X0_fill e0 x1 x2 x4 x5 x6 I L) := by
  refine gMv_of hJ (by decide +kernel) kc_X0_fill (Nat.le_of_ble_eq_true rfl) (fun p e s m below meth c A ls C hr hP hS hl => ?_)
  have hx := C.hx
  have hb := C.hb
  have hl : lv_has ls 7 [(0, .ref (ad (14 + e0))), (1, .int x1), (2, .long x2), (4, .int x4), (5, .int x5), (6, .int x6)] := hl
  refine lv_aload_n hx hb dX0_fill_0 rfl (lv_at hl 0 rfl) ?_
  refine lv_iload_n hx hb dX0_fill_1 rfl (lv_at hl 1 rfl) ?_
  refine g_putI (T := TX0) C hP hS (14 + e0) 0 (by omega) (kd_E he _ _) rfl inwX0 tyX0 tyX0_ok nmX0 (by decide) kf_X0_9 rfl rfl (by decide : 0 < 6) ((kd_E he _ _).trans (by simp only [sI, va_up_self]; rfl)) dX0_fill_2 (fun H locs hP hS => ?_)
  refine lv_aload_n hx hb dX0_fill_5 rfl (lv_at hl 0 rfl) ?_
  refine lv_lload_n hx hb dX0_fill_6 rfl (lv_at hl 2 rfl) ?_
  refine g_putL (T := TX0) C hP hS (14 + e0) 1 (by omega) (kd_E he _ _) rfl inwX0 tyX0 tyX0_ok nmX0 (by decide) kf_X0_15 rfl rfl (by decide : 1 < 6) ((kd_E he _ _).trans (by simp only [sL, va_up_self]; rfl)) dX0_fill_7 (fun H locs hP hS => ?_)
  refine lv_aload_n hx hb dX0_fill_10 rfl (lv_at hl 0 rfl) ?_
  refine lv_iload hx hb dX0_fill_11 (lv_at hl 3 rfl) ?_
  refine g_putI (T := TX0) C hP hS (14 + e0) 2 (by omega) (kd_E he _ _) rfl inwX0 tyX0 tyX0_ok nmX0 (by decide) kf_X0_19 rfl rfl (by decide : 2 < 6) ((kd_E he _ _).trans (by simp only [sI, va_up_self]; rfl)) dX0_fill_13 (fun H locs hP hS => ?_)
  refine lv_aload_n hx hb dX0_fill_16 rfl (lv_at hl 0 rfl) ?_
  refine lv_iload hx hb dX0_fill_17 (lv_at hl 4 rfl) ?_
  refine g_putI (T := TX0) C hP hS (14 + e0) 3 (by omega) (kd_E he _ _) rfl inwX0 tyX0 tyX0_ok nmX0 (by decide) kf_X0_22 rfl rfl (by decide : 3 < 6) ((kd_E he _ _).trans (by simp only [sI, va_up_self]; rfl)) dX0_fill_19 (fun H locs hP hS => ?_)
  refine lv_aload_n hx hb dX0_fill_22 rfl (lv_at hl 0 rfl) ?_
  refine lv_iload hx hb dX0_fill_23 (lv_at hl 5 rfl) ?_
  refine g_putI (T := TX0) C hP hS (14 + e0) 4 (by omega) (kd_E he _ _) rfl inwX0 tyX0 tyX0_ok nmX0 (by decide) kf_X0_25 rfl rfl (by decide : 4 < 6) ((kd_E he _ _).trans (by simp only [sI, va_up_self]; rfl)) dX0_fill_25 (fun H locs hP hS => ?_)
  exact gM_vret C hr hP hS (by decide) (by decide) dX0_fill_28 (⟨rfl, rfl⟩)
def pq_X1_isCertified (pp : Nat) (I : MI) (L : ML) : Int32 → MI → ML → Prop := fun r I' L' => ((I (95 + 4 * pp) 3) = (-1) ∧ (0 : Int32) = r ∧ I = I' ∧ L = L') ∨ (¬ (I (95 + 4 * pp) 3) = (-1) ∧ (1 : Int32) = r ∧ I = I' ∧ L = L')
set_option maxRecDepth 100000 in
set_option maxHeartbeats 4000000 in
theorem ct_X1_isCertified (l : Launch) (D : va_G) (cy : Nat → ClassId) (ad : Nat → Nat) (hJ : gJ ad) (pp : Nat) (I : MI) (L : ML) (hp : pp < 10) : gMi l D cy ad yX1_isCertified cX1_isCertified 1 .boolean (gR 5 0 0) [.ref (ad (95 + 4 * pp))] I L (pq_X1_isCertified pp I L) := by
  refine gMi_of hJ (by decide +kernel) kc_X1_isCertified (Nat.le_of_ble_eq_true rfl) (fun p e s m below meth c A ls C hr hP hS hl => ?_)
  have hx := C.hx
  have hb := C.hb
  have hl : lv_has ls 1 [(0, .ref (ad (95 + 4 * pp)))] := hl
  refine lv_aload_n hx hb dX1_isCertified_0 rfl (lv_at hl 0 rfl) ?_
  refine g_get (v := .int (I (95 + 4 * pp) 3)) (T := TX1) C hP (95 + 4 * pp) 3 (by omega) (kd_P hp _ _) rfl inwX1 (by decide) kf_X1_22 rfl dX1_isCertified_1 ?_
  refine lv_iconst (v := (-1)) hx hb dX1_isCertified_4 (by decide) ?_
  refine lv_icmp_eq (tgt := 12) hx hb dX1_isCertified_5 (by decide) (fun c5 => ?_) (fun c5 => ?_)
  · refine lv_iconst (v := 0) hx hb dX1_isCertified_12 (by decide) ?_
    exact gM_zret C hr narrow_b0 hP hS (by decide) (by decide) dX1_isCertified_13 (Or.inl (⟨c5, rfl, rfl, rfl⟩))
  · refine lv_iconst (v := 1) hx hb dX1_isCertified_8 (by decide) ?_
    refine lv_goto (tgt := 13) hx hb dX1_isCertified_9 (by decide) ?_
    exact gM_zret C hr narrow_b1 hP hS (by decide) (by decide) dX1_isCertified_13 (Or.inr (⟨c5, rfl, rfl, rfl⟩))
def pq_X1_hasLineFor (pp : Nat) (nn : Nat) (x1 : Int32) (I : MI) (L : ML) : Int32 → MI → ML → Prop := fun r I' L' => ((∃ k, k < nn ∧ I (96 + 4 * pp) k = x1) ∧ 1 = r ∧ I = I' ∧ L = L') ∨ (¬ (∃ k, k < nn ∧ I (96 + 4 * pp) k = x1) ∧ 0 = r ∧ I = I' ∧ L = L')
set_option maxRecDepth 100000 in
set_option maxHeartbeats 4000000 in
theorem ct_X1_hasLineFor (l : Launch) (D : va_G) (cy : Nat → ClassId) (ad : Nat → Nat) (hJ : gJ ad) (pp : Nat) (nn : Nat) (x1 : Int32) (I : MI) (L : ML) (hp : pp < 10) (hn : I (95 + 4 * pp) 2 = nI nn) (hn4 : nn ≤ 4) : gMi l D cy ad yX1_hasLineFor cX1_hasLineFor 3 .boolean (gR 5 0 0) [.ref (ad (95 + 4 * pp)), .int x1] I L (pq_X1_hasLineFor pp nn x1 I L) := by
  refine gMi_of hJ (by decide +kernel) kc_X1_hasLineFor (Nat.le_of_ble_eq_true rfl) (fun p e s m below meth c A ls C hr hP hS hl => ?_)
  have hx := C.hx
  have hb := C.hb
  have hl : lv_has ls 3 [(0, .ref (ad (95 + 4 * pp))), (1, .int x1)] := hl
  refine lv_iconst (v := 0) hx hb dX1_hasLineFor_0 (by decide) ?_
  refine lv_istore_n (lv' := [(2, .int 0), (0, .ref (ad (95 + 4 * pp))), (1, .int x1)]) hx hb dX1_hasLineFor_1 rfl hl (by decide) rfl (fun ls hl => ?_)
  have loop2 : ∀ (N : Nat) (i : Nat) (hi : i ≤ nn) (hno : ∀ k, k < i → ¬ I (96 + 4 * pp) k = x1) (hfu : nn < i + N) (H : Heap) (locs : List Loc) (ls : Array Slot), gP D cy ad I L H → va_S A s.heap H locs → lv_has ls 3 [(0, .ref (ad (95 + 4 * pp))), (1, .int x1), (2, .int (nI i))] → W p l e (gR 5 0 0) s m ([.ref (ad (95 + 4 * pp)), .int x1] : List Value).toArray below meth c H locs 0 0 (MQ below (gQi D cy ad A (pq_X1_hasLineFor pp nn x1 I L)) ([.ref (ad (95 + 4 * pp)), .int x1] : List Value).toArray s 0 0 A) (F0 m 2 ls []) := by
    intro N
    induction N with
    | zero =>
      intro i hi hno hfu
      exact absurd hfu (by omega)
    | succ N ih =>
      intro i hi hno hfu H locs ls hP hS hl
      refine lv_iload_n hx hb dX1_hasLineFor_2 rfl (lv_at hl 2 rfl) ?_
      refine lv_aload_n hx hb dX1_hasLineFor_3 rfl (lv_at hl 0 rfl) ?_
      refine g_get (v := .int (nI nn)) (T := TX1) C hP (95 + 4 * pp) 2 (by omega) (kd_P hp _ _) rfl inwX1 (by decide) kf_X1_18 (congrArg (fun z => some (Value.int z)) hn) dX1_hasLineFor_4 ?_
      refine lv_icmp_ge (tgt := 28) hx hb dX1_hasLineFor_7 (by decide) (fun c7 => ?_) (fun c7 => ?_)
      · have n7 : nn ≤ i := (nI_leeE rfl rfl (by omega) (by omega)).mp c7
        refine lv_iconst (v := 0) hx hb dX1_hasLineFor_28 (by decide) ?_
        exact gM_zret C hr narrow_b0 hP hS (by decide) (by decide) dX1_hasLineFor_29 (Or.inr ⟨fun ⟨k, hk, e⟩ => hno k (by omega) e, rfl, rfl, rfl⟩)  -- end 0: n7 : nn ≤ i
      · have n7 : ¬ nn ≤ i := (not_congr (nI_leeE rfl rfl (by omega) (by omega))).mp c7
        refine lv_aload_n hx hb dX1_hasLineFor_10 rfl (lv_at hl 0 rfl) ?_
        refine g_get (v := .ref (ad (96 + 4 * pp))) (T := TX1) C hP (95 + 4 * pp) 0 (by omega) (kd_P hp _ _) rfl inwX1 (by decide) kf_X1_9 rfl dX1_hasLineFor_11 ?_
        refine lv_iload_n hx hb dX1_hasLineFor_14 rfl (lv_at hl 2 rfl) ?_
        refine g_iald (v := I (96 + 4 * pp) i) C hP (96 + 4 * pp) 4 (by omega) (kd_PA hp) i rfl rfl (by omega) (by decide) dX1_hasLineFor_15 ?_
        refine lv_iload_n hx hb dX1_hasLineFor_16 rfl (lv_at hl 1 rfl) ?_
        refine lv_icmp_ne (tgt := 22) hx hb dX1_hasLineFor_17 (by decide) (fun c17 => ?_) (fun c17 => ?_)
        · refine lv_iinc (v := nI (i + 1)) (lv' := [(2, .int (nI (i + 1))), (0, .ref (ad (95 + 4 * pp))), (1, .int x1)]) hx hb dX1_hasLineFor_22 hl (k := 2) rfl (nI_1 _) (by decide) rfl (fun ls hl => ?_)
          refine lv_goto (tgt := 2) hx hb dX1_hasLineFor_25 (by decide) ?_
          exact ih (i + 1) (by omega) (lt_s hno c17) (by omega) _ _ _ hP hS (lv_sub hl [1, 2, 0] rfl)
        · refine lv_iconst (v := 1) hx hb dX1_hasLineFor_20 (by decide) ?_
          exact gM_zret C hr narrow_b1 hP hS (by decide) (by decide) dX1_hasLineFor_21 (Or.inl ⟨⟨i, by omega, c17⟩, rfl, rfl, rfl⟩)  -- end 1: n7 : ¬ nn ≤ i ; c17 : (I (96 + 4 * pp) i) = x1
  exact loop2 (nn + 1) 0 (Nat.zero_le _) (fun _ h => absurd h (Nat.not_lt_zero _)) (by omega) _ _ _ hP hS (lv_sub hl [1, 2, 0] rfl)
def pq_X1_appendLine (pp : Nat) (nn : Nat) (x1 : Int32) (x2 : Int32) (I : MI) (L : ML) : MI → ML → Prop := fun I' L' => ((sI (sI (sI I (96 + 4 * pp) nn x1) (97 + 4 * pp) nn x2) (95 + 4 * pp) 2 ((nI nn) + 1)) = I' ∧ L = L')
set_option maxRecDepth 100000 in
set_option maxHeartbeats 4000000 in
theorem ct_X1_appendLine (l : Launch) (D : va_G) (cy : Nat → ClassId) (ad : Nat → Nat) (hJ : gJ ad) (pp : Nat) (nn : Nat) (x1 : Int32) (x2 : Int32) (I : MI) (L : ML) (hp : pp < 10) (hn : I (95 + 4 * pp) 2 = nI nn) (hn4 : nn < 4) : gMv l D cy ad yX1_appendLine cX1_appendLine 3 (gR 5 0 0) [.ref (ad (95 + 4 * pp)), .int x1, .int x2] I L (pq_X1_appendLine pp nn x1 x2 I L) := by
  refine gMv_of hJ (by decide +kernel) kc_X1_appendLine (Nat.le_of_ble_eq_true rfl) (fun p e s m below meth c A ls C hr hP hS hl => ?_)
  have hx := C.hx
  have hb := C.hb
  have hl : lv_has ls 3 [(0, .ref (ad (95 + 4 * pp))), (1, .int x1), (2, .int x2)] := hl
  refine lv_aload_n hx hb dX1_appendLine_0 rfl (lv_at hl 0 rfl) ?_
  refine g_get (v := .ref (ad (96 + 4 * pp))) (T := TX1) C hP (95 + 4 * pp) 0 (by omega) (kd_P hp _ _) rfl inwX1 (by decide) kf_X1_9 rfl dX1_appendLine_1 ?_
  refine lv_aload_n hx hb dX1_appendLine_4 rfl (lv_at hl 0 rfl) ?_
  refine g_get (v := .int (nI nn)) (T := TX1) C hP (95 + 4 * pp) 2 (by omega) (kd_P hp _ _) rfl inwX1 (by decide) kf_X1_18 (congrArg (fun z => some (Value.int z)) hn) dX1_appendLine_5 ?_
  refine lv_iload_n hx hb dX1_appendLine_8 rfl (lv_at hl 1 rfl) ?_
  refine g_iast C hP hS (96 + 4 * pp) 4 (by omega) (kd_PA hp) nn rfl (by omega) (by decide) dX1_appendLine_9 (fun H locs hP hS => ?_)
  refine lv_aload_n hx hb dX1_appendLine_10 rfl (lv_at hl 0 rfl) ?_
  refine g_get (v := .ref (ad (97 + 4 * pp))) (T := TX1) C hP (95 + 4 * pp) 1 (by omega) (kd_P hp _ _) rfl inwX1 (by decide) kf_X1_15 rfl dX1_appendLine_11 ?_
  refine lv_aload_n hx hb dX1_appendLine_14 rfl (lv_at hl 0 rfl) ?_
  refine g_get (v := .int (nI nn)) (T := TX1) C hP (95 + 4 * pp) 2 (by omega) (kd_P hp _ _) rfl inwX1 (by decide) kf_X1_18 (congrArg (fun z => some (Value.int z)) ((congrFun (sI_row (by omega)) _).trans hn)) dX1_appendLine_15 ?_
  refine lv_iload_n hx hb dX1_appendLine_18 rfl (lv_at hl 2 rfl) ?_
  refine g_iast C hP hS (97 + 4 * pp) 4 (by omega) (kd_PS hp) nn rfl (by omega) (by decide) dX1_appendLine_19 (fun H locs hP hS => ?_)
  refine lv_aload_n hx hb dX1_appendLine_20 rfl (lv_at hl 0 rfl) ?_
  refine lv_dup hx hb dX1_appendLine_21 rfl ?_
  refine g_get (v := .int (nI nn)) (T := TX1) C hP (95 + 4 * pp) 2 (by omega) (kd_P hp _ _) rfl inwX1 (by decide) kf_X1_18 (congrArg (fun z => some (Value.int z)) ((congrFun (sI_row (by omega)) _).trans ((congrFun (sI_row (by omega)) _).trans hn))) dX1_appendLine_22 ?_
  refine lv_iconst (v := 1) hx hb dX1_appendLine_25 (by decide) ?_
  refine lv_iadd hx hb dX1_appendLine_26 ?_
  refine g_putI (T := TX1) C hP hS (95 + 4 * pp) 2 (by omega) (kd_P hp _ _) rfl inwX1 tyX1 tyX1_ok nmX1 (by decide) kf_X1_18 rfl rfl (by decide : 2 < 5) ((kd_P hp _ _).trans (by simp only [sI, va_up_self]; rfl)) dX1_appendLine_27 (fun H locs hP hS => ?_)
  exact gM_vret C hr hP hS (by decide) (by decide) dX1_appendLine_30 (⟨rfl, rfl⟩)
def pq_X1_shareSum (pp : Nat) (nn : Nat) (I : MI) (L : ML) : Int32 → MI → ML → Prop := fun r I' L' => gsm (I (97 + 4 * pp)) nn = r ∧ I = I' ∧ L = L'
set_option maxRecDepth 100000 in
set_option maxHeartbeats 4000000 in
theorem ct_X1_shareSum (l : Launch) (D : va_G) (cy : Nat → ClassId) (ad : Nat → Nat) (hJ : gJ ad) (pp : Nat) (nn : Nat) (I : MI) (L : ML) (hp : pp < 10) (hn : I (95 + 4 * pp) 2 = nI nn) (hn4 : nn ≤ 4) : gMi l D cy ad yX1_shareSum cX1_shareSum 3 .int (gR 5 0 0) [.ref (ad (95 + 4 * pp))] I L (pq_X1_shareSum pp nn I L) := by
  refine gMi_of hJ (by decide +kernel) kc_X1_shareSum (Nat.le_of_ble_eq_true rfl) (fun p e s m below meth c A ls C hr hP hS hl => ?_)
  have hx := C.hx
  have hb := C.hb
  have hl : lv_has ls 3 [(0, .ref (ad (95 + 4 * pp)))] := hl
  refine lv_iconst (v := 0) hx hb dX1_shareSum_0 (by decide) ?_
  refine lv_istore_n (lv' := [(1, .int 0), (0, .ref (ad (95 + 4 * pp)))]) hx hb dX1_shareSum_1 rfl hl (by decide) rfl (fun ls hl => ?_)
  refine lv_iconst (v := 0) hx hb dX1_shareSum_2 (by decide) ?_
  refine lv_istore_n (lv' := [(2, .int 0), (1, .int 0), (0, .ref (ad (95 + 4 * pp)))]) hx hb dX1_shareSum_3 rfl hl (by decide) rfl (fun ls hl => ?_)
  have loop4 : ∀ (N : Nat) (i : Nat) (hi : i ≤ nn) (hfu : nn < i + N) (H : Heap) (locs : List Loc) (ls : Array Slot), gP D cy ad I L H → va_S A s.heap H locs → lv_has ls 3 [(0, .ref (ad (95 + 4 * pp))), (1, .int (gsm (I (97 + 4 * pp)) i)), (2, .int (nI i))] → W p l e (gR 5 0 0) s m ([.ref (ad (95 + 4 * pp))] : List Value).toArray below meth c H locs 0 0 (MQ below (gQi D cy ad A (pq_X1_shareSum pp nn I L)) ([.ref (ad (95 + 4 * pp))] : List Value).toArray s 0 0 A) (F0 m 4 ls []) := by
    intro N
    induction N with
    | zero =>
      intro i hi hfu
      exact absurd hfu (by omega)
    | succ N ih =>
      intro i hi hfu H locs ls hP hS hl
      refine lv_iload_n hx hb dX1_shareSum_4 rfl (lv_at hl 2 rfl) ?_
      refine lv_aload_n hx hb dX1_shareSum_5 rfl (lv_at hl 0 rfl) ?_
      refine g_get (v := .int (nI nn)) (T := TX1) C hP (95 + 4 * pp) 2 (by omega) (kd_P hp _ _) rfl inwX1 (by decide) kf_X1_18 (congrArg (fun z => some (Value.int z)) hn) dX1_shareSum_6 ?_
      refine lv_icmp_ge (tgt := 27) hx hb dX1_shareSum_9 (by decide) (fun c9 => ?_) (fun c9 => ?_)
      · have n9 : nn ≤ i := (nI_leeE rfl rfl (by omega) (by omega)).mp c9
        refine lv_iload_n hx hb dX1_shareSum_27 rfl (lv_at hl 1 rfl) ?_
        exact gM_iret C hr hP hS (by decide) (by decide) dX1_shareSum_28 (⟨by rw [show nn = i by omega], rfl, rfl⟩)  -- end 0: n9 : nn ≤ i
      · have n9 : ¬ nn ≤ i := (not_congr (nI_leeE rfl rfl (by omega) (by omega))).mp c9
        refine lv_iload_n hx hb dX1_shareSum_12 rfl (lv_at hl 1 rfl) ?_
        refine lv_aload_n hx hb dX1_shareSum_13 rfl (lv_at hl 0 rfl) ?_
        refine g_get (v := .ref (ad (97 + 4 * pp))) (T := TX1) C hP (95 + 4 * pp) 1 (by omega) (kd_P hp _ _) rfl inwX1 (by decide) kf_X1_15 rfl dX1_shareSum_14 ?_
        refine lv_iload_n hx hb dX1_shareSum_17 rfl (lv_at hl 2 rfl) ?_
        refine g_iald (v := I (97 + 4 * pp) i) C hP (97 + 4 * pp) 4 (by omega) (kd_PS hp) i rfl rfl (by omega) (by decide) dX1_shareSum_18 ?_
        refine lv_iadd hx hb dX1_shareSum_19 ?_
        refine lv_istore_n (lv' := [(1, .int ((gsm (I (97 + 4 * pp)) i) + (I (97 + 4 * pp) i))), (0, .ref (ad (95 + 4 * pp))), (2, .int (nI i))]) hx hb dX1_shareSum_20 rfl hl (by decide) rfl (fun ls hl => ?_)
        refine lv_iinc (v := nI (i + 1)) (lv' := [(2, .int (nI (i + 1))), (1, .int ((gsm (I (97 + 4 * pp)) i) + (I (97 + 4 * pp) i))), (0, .ref (ad (95 + 4 * pp)))]) hx hb dX1_shareSum_21 hl (k := 2) rfl (nI_1 _) (by decide) rfl (fun ls hl => ?_)
        refine lv_goto (tgt := 4) hx hb dX1_shareSum_24 (by decide) ?_
        exact ih (i + 1) (by omega) (by omega) _ _ _ hP hS (lv_sub hl [2, 1, 0] rfl)
  exact loop4 (nn + 1) 0 (Nat.zero_le _) (by omega) _ _ _ hP hS (lv_sub hl [2, 1, 0] rfl)
def pq_X1_computePostings (pp : Nat) (nn : Nat) (x1 : Int64) (I : MI) (L : ML) : MI → ML → Prop := fun I' L' => I = I' ∧ va_up L 7 (gpw x1 (I (97 + 4 * pp)) nn (L 7)) = L'
set_option maxRecDepth 100000 in
set_option maxHeartbeats 4000000 in
theorem ct_X1_computePostings (l : Launch) (D : va_G) (cy : Nat → ClassId) (ad : Nat → Nat) (hJ : gJ ad) (pp : Nat) (nn : Nat) (x1 : Int64) (I : MI) (L : ML) (hp : pp < 10) (hn : I (95 + 4 * pp) 2 = nI nn) (hn1 : 1 ≤ nn) (hn4 : nn ≤ 4) : gMv l D cy ad yX1_computePostings cX1_computePostings 7 (gR 5 0 0) [.ref (ad (95 + 4 * pp)), .long x1, .ref (ad 7)] I L (pq_X1_computePostings pp nn x1 I L) := by
  refine gMv_of hJ (by decide +kernel) kc_X1_computePostings (Nat.le_of_ble_eq_true rfl) (fun p e s m below meth c A ls C hr hP hS hl => ?_)
  have hx := C.hx
  have hb := C.hb
  have hl : lv_has ls 7 [(0, .ref (ad (95 + 4 * pp))), (1, .long x1), (3, .ref (ad 7))] := hl
  refine lv_lconst (v := 0) hx hb dX1_computePostings_0 (by decide) ?_
  refine lv_lstore (lv' := [(4, .long 0), (0, .ref (ad (95 + 4 * pp))), (1, .long x1), (3, .ref (ad 7))]) hx hb dX1_computePostings_1 hl (by decide) rfl (fun ls hl => ?_)
  refine lv_iconst (v := 0) hx hb dX1_computePostings_3 (by decide) ?_
  refine lv_istore (lv' := [(6, .int 0), (4, .long 0), (0, .ref (ad (95 + 4 * pp))), (1, .long x1), (3, .ref (ad 7))]) hx hb dX1_computePostings_4 hl (by decide) rfl (fun ls hl => ?_)
  have loop6 : ∀ (N : Nat) (i : Nat) (L1 : ML) (hi : i + 1 ≤ nn) (hL0 : ∀ c, c ≠ 7 → L1 c = L c) (hL1 : ∀ k, k < i → L1 7 k = gq x1 (I (97 + 4 * pp)) k) (hL2 : ∀ k, i ≤ k → L1 7 k = L 7 k) (hfu : nn < i + N) (H : Heap) (locs : List Loc) (ls : Array Slot), gP D cy ad I L1 H → va_S A s.heap H locs → lv_has ls 7 [(0, .ref (ad (95 + 4 * pp))), (1, .long x1), (3, .ref (ad 7)), (4, .long (gsq x1 (I (97 + 4 * pp)) i)), (6, .int (nI i))] → W p l e (gR 5 0 0) s m ([.ref (ad (95 + 4 * pp)), .long x1, .ref (ad 7)] : List Value).toArray below meth c H locs 0 0 (MQ below (gQv D cy ad A (pq_X1_computePostings pp nn x1 I L)) ([.ref (ad (95 + 4 * pp)), .long x1, .ref (ad 7)] : List Value).toArray s 0 0 A) (F0 m 6 ls []) := by
    intro N
    induction N with
    | zero =>
      intro i L1 hi hL0 hL1 hL2 hfu
      exact absurd hfu (by omega)
    | succ N ih =>
      intro i L1 hi hL0 hL1 hL2 hfu H locs ls hP hS hl
      refine lv_iload hx hb dX1_computePostings_6 (lv_at hl 4 rfl) ?_
      refine lv_aload_n hx hb dX1_computePostings_8 rfl (lv_at hl 0 rfl) ?_
      refine g_get (v := .int (nI nn)) (T := TX1) C hP (95 + 4 * pp) 2 (by omega) (kd_P hp _ _) rfl inwX1 (by decide) kf_X1_18 (congrArg (fun z => some (Value.int z)) hn) dX1_computePostings_9 ?_
      refine lv_iconst (v := 1) hx hb dX1_computePostings_12 (by decide) ?_
      refine lv_isub hx hb dX1_computePostings_13 ?_
      refine lv_icmp_ge (tgt := 50) hx hb dX1_computePostings_14 (by decide) (fun c14 => ?_) (fun c14 => ?_)
      · have n14 : (nn - 1) ≤ i := (nI_leeE (nI_subE rfl (show (1 : Int32) = nI 1 from rfl) (by omega)) rfl (by omega) (by omega)).mp c14
        refine lv_aload_n hx hb dX1_computePostings_50 rfl (lv_at hl 2 rfl) ?_
        refine lv_aload_n hx hb dX1_computePostings_51 rfl (lv_at hl 0 rfl) ?_
        refine g_get (v := .int (nI nn)) (T := TX1) C hP (95 + 4 * pp) 2 (by omega) (kd_P hp _ _) rfl inwX1 (by decide) kf_X1_18 (congrArg (fun z => some (Value.int z)) hn) dX1_computePostings_52 ?_
        refine lv_iconst (v := 1) hx hb dX1_computePostings_55 (by decide) ?_
        refine lv_isub hx hb dX1_computePostings_56 ?_
        refine lv_lload hx hb dX1_computePostings_57 (lv_at hl 3 rfl) ?_
        refine lv_lneg hx hb dX1_computePostings_59 ?_
        refine g_last C hP hS 7 4 (by decide) (fun _ _ => rfl) (nn - 1) (nI_subE rfl (show (1 : Int32) = nI 1 from rfl) (by omega)) (by omega) (by decide) dX1_computePostings_60 (fun H locs hP hS => ?_)
        exact gM_vret C hr hP hS (by decide) (by decide) dX1_computePostings_61 (⟨rfl, gpw_end (by omega) (by omega) hL0 hL1 hL2⟩)  -- end 0: n14 : (nn - 1) ≤ i
      · have n14 : ¬ (nn - 1) ≤ i := (not_congr (nI_leeE (nI_subE rfl (show (1 : Int32) = nI 1 from rfl) (by omega)) rfl (by omega) (by omega))).mp c14
        refine lv_aload_n hx hb dX1_computePostings_17 rfl (lv_at hl 2 rfl) ?_
        refine lv_iload hx hb dX1_computePostings_18 (lv_at hl 4 rfl) ?_
        refine lv_lload_n hx hb dX1_computePostings_20 rfl (lv_at hl 1 rfl) ?_
        refine lv_aload_n hx hb dX1_computePostings_21 rfl (lv_at hl 0 rfl) ?_
        refine g_get (v := .ref (ad (97 + 4 * pp))) (T := TX1) C hP (95 + 4 * pp) 1 (by omega) (kd_P hp _ _) rfl inwX1 (by decide) kf_X1_15 rfl dX1_computePostings_22 ?_
        refine lv_iload hx hb dX1_computePostings_25 (lv_at hl 4 rfl) ?_
        refine g_iald (v := I (97 + 4 * pp) i) C hP (97 + 4 * pp) 4 (by omega) (kd_PS hp) i rfl rfl (by omega) (by decide) dX1_computePostings_27 ?_
        refine lv_i2l (v := (I (97 + 4 * pp) i).toInt64) hx hb dX1_computePostings_28 rfl ?_
        refine lv_lmul hx hb dX1_computePostings_29 ?_
        refine lv_ldc2 (v := 100) hx hb C.hown (C.hts _ kcn_X1_29) dX1_computePostings_30 ?_
        refine lv_ldiv hx hb dX1_computePostings_33 (by decide) ?_
        refine g_last C hP hS 7 4 (by decide) (fun _ _ => rfl) i rfl (by omega) (by decide) dX1_computePostings_34 (fun H locs hP hS => ?_)
        refine lv_lload hx hb dX1_computePostings_35 (lv_at hl 3 rfl) ?_
        refine lv_aload_n hx hb dX1_computePostings_37 rfl (lv_at hl 2 rfl) ?_
        refine lv_iload hx hb dX1_computePostings_38 (lv_at hl 4 rfl) ?_
        refine g_lald (v := (x1 * ((I (97 + 4 * pp) i).toInt64)) / 100) C hP 7 4 (by decide) (fun _ _ => rfl) i rfl sL_eq (by omega) (by decide) dX1_computePostings_40 ?_
        refine lv_ladd hx hb dX1_computePostings_41 ?_
        refine lv_lstore (lv' := [(4, .long ((gsq x1 (I (97 + 4 * pp)) i) + ((x1 * ((I (97 + 4 * pp) i).toInt64)) / 100))), (0, .ref (ad (95 + 4 * pp))), (1, .long x1), (3, .ref (ad 7)), (6, .int (nI i))]) hx hb dX1_computePostings_42 hl (by decide) rfl (fun ls hl => ?_)
        refine lv_iinc (v := nI (i + 1)) (lv' := [(6, .int (nI (i + 1))), (4, .long ((gsq x1 (I (97 + 4 * pp)) i) + ((x1 * ((I (97 + 4 * pp) i).toInt64)) / 100))), (0, .ref (ad (95 + 4 * pp))), (1, .long x1), (3, .ref (ad 7))]) hx hb dX1_computePostings_44 hl (k := 4) rfl (nI_1 _) (by decide) rfl (fun ls hl => ?_)
        refine lv_goto (tgt := 6) hx hb dX1_computePostings_47 (by decide) ?_
        exact ih (i + 1) _ (by omega) (fun c hc => (sL_row hc).trans (hL0 c hc)) (gpw_step hL1) (fun k hk => by rw [sL_at, if_neg (fun z => by omega)]; exact hL2 k (by omega)) (by omega) _ _ _ hP hS (lv_sub hl [2, 3, 4, 1, 0] rfl)
  exact loop6 (nn + 1) 0 L hn1 (fun _ _ => rfl) (fun _ h => absurd h (Nat.not_lt_zero _)) (fun _ _ => rfl) (by omega) _ _ _ hP hS (lv_sub hl [2, 3, 4, 1, 0] rfl)
end
section
def pq_X3_mayRun (np : Nat) (x1 : Int32) (x2 : Int32) (I : MI) (L : ML) : Int32 → MI → ML → Prop := fun r I' L' => (gMR np I x1 x2 ∧ 1 = r ∧ I = I' ∧ L = L') ∨ (¬ gMR np I x1 x2 ∧ 0 = r ∧ I = I' ∧ L = L')
set_option maxRecDepth 100000 in
set_option maxHeartbeats 4000000 in
theorem ct_X3_mayRun (l : Launch) (D : va_G) (cy : Nat → ClassId) (ad : Nat → Nat) (hJ : gJ ad) (np : Nat) (x1 : Int32) (x2 : Int32) (I : MI) (L : ML) (hnp : I 0 3 = nI np) (hnp10 : np ≤ 10) : gMi l D cy ad yX3_mayRun cX3_mayRun 4 .boolean (gR 4 0 0) [.ref (ad 0), .int x1, .int x2] I L (pq_X3_mayRun np x1 x2 I L) := by
  refine gMi_of hJ (by decide +kernel) kc_X3_mayRun (Nat.le_of_ble_eq_true rfl) (fun p e s m below meth c A ls C hr hP hS hl => ?_)
  have hx := C.hx
  have hb := C.hb
  have hl : lv_has ls 4 [(0, .ref (ad 0)), (1, .int x1), (2, .int x2)] := hl
  refine lv_iload_n hx hb dX3_mayRun_0 rfl (lv_at hl 1 rfl) ?_
  refine gM_callSi (As := [.int x1]) (rest := []) C hP hS hl.1 (ct_X3_isUser l D cy ad hJ x1 I L) fa_X3_isUser kl_X3_206 kst_X3_isUser rfl (by decide) (Nat.le_of_ble_eq_true rfl) (by decide) dX3_mayRun_1 rfl (fun r1 I1 L1 H locs hq hP hS => ?_)
  rcases hq with ⟨h1_0, rfl, rfl, rfl⟩ | ⟨h1_0, rfl, rfl, rfl⟩
  · obtain ⟨e1_0, l1_0⟩ := vp_ix h1_0
    refine lv_if_eq (tgt := 15) hx hb dX3_mayRun_4 (by decide) (fun c => absurd c (by decide)) (fun c => ?_)
    refine lv_aload_n hx hb dX3_mayRun_7 rfl (lv_at hl 0 rfl) ?_
    refine lv_iload_n hx hb dX3_mayRun_8 rfl (lv_at hl 2 rfl) ?_
    refine gM_callVi (As := [.int x2]) (rest := []) C hP hS hl.1 (ct_X3_isProcedure l D cy ad hJ np x2 I L hnp hnp10) fa_X3_isProcedure kl_X3_209 ki_X3_isProcedure kse_X3_isProcedure (by decide) (T := TX3) rfl rfl rfl (by decide) (Nat.le_of_ble_eq_true rfl) (by decide) dX3_mayRun_9 rfl (fun r9 I9 L9 H locs hq hP hS => ?_)
    rcases hq with ⟨h9_0, rfl, rfl, rfl⟩ | ⟨h9_0, rfl, rfl, rfl⟩
    · obtain ⟨e9_0, l9_0⟩ := vp_ix h9_0
      refine lv_if_ne (tgt := 17) hx hb dX3_mayRun_12 (by decide) (fun c => ?_) (fun c => absurd c (by decide))
      refine lv_aload_n hx hb dX3_mayRun_17 rfl (lv_at hl 0 rfl) ?_
      refine g_get (v := .ref (ad 3)) (T := TX3) C hP 0 2 (by decide) rfl rfl inwX3 (by decide) kf_X3_18 rfl dX3_mayRun_18 ?_
      refine lv_iload_n hx hb dX3_mayRun_21 rfl (lv_at hl 2 rfl) ?_
      refine g_aldP C hP x2.toNatClampNeg e9_0 (by omega) dX3_mayRun_22 ?_
      refine lv_astore_n (lv' := [(3, .ref (ad (95 + 4 * x2.toNatClampNeg))), (0, .ref (ad 0)), (1, .int x1), (2, .int x2)]) hx hb dX3_mayRun_23 rfl hl (by decide) rfl (fun ls hl => ?_)
      refine lv_aload_n hx hb dX3_mayRun_24 rfl (lv_at hl 0 rfl) ?_
      refine gM_callVNi (As := []) (rest := []) C hP hS hl.1 (ct_X1_isCertified l D cy ad hJ x2.toNatClampNeg I L (by omega)) fa_X1_isCertified kn_m84 ki_X1_isCertified kse_X1_isCertified (by omega) (T := TX1) (kd_P (by omega) _ _) rfl rfl (by decide) (Nat.le_of_ble_eq_true rfl) (by decide) dX3_mayRun_25 rfl (fun r25 I25 L25 H locs hq hP hS => ?_)
      rcases hq with ⟨h25_0, rfl, rfl, rfl⟩ | ⟨h25_0, rfl, rfl, rfl⟩
      · refine lv_if_eq (tgt := 52) hx hb dX3_mayRun_28 (by decide) (fun c => ?_) (fun c => absurd c (by decide))
        refine lv_iconst (v := 0) hx hb dX3_mayRun_52 (by decide) ?_
        exact gM_zret C hr narrow_b0 hP hS (by decide) (by decide) dX3_mayRun_53 (Or.inr ⟨fun h => h.2.2.1 h25_0, rfl, rfl, rfl⟩)  -- end 0: h1_0 : vp_in x1 8 ; h9_0 : vp_in x2 np ; h25_0 : (I (95 + 4 * x2.toNatClampNeg) 3) = (-1)
      · refine lv_if_eq (tgt := 52) hx hb dX3_mayRun_28 (by decide) (fun c => absurd c (by decide)) (fun c => ?_)
        refine lv_aload_n hx hb dX3_mayRun_31 rfl (lv_at hl 0 rfl) ?_
        refine g_getN (v := .int (I (95 + 4 * x2.toNatClampNeg) 3)) (T := TX1) C hP (95 + 4 * x2.toNatClampNeg) 3 (by omega) (kd_P (by omega) _ _) rfl inwX1 (by decide) kn_f105 rfl dX3_mayRun_32 ?_
        refine lv_iload_n hx hb dX3_mayRun_35 rfl (lv_at hl 2 rfl) ?_
        refine lv_icmp_eq (tgt := 52) hx hb dX3_mayRun_36 (by decide) (fun c36 => ?_) (fun c36 => ?_)
        · refine lv_iconst (v := 0) hx hb dX3_mayRun_52 (by decide) ?_
          exact gM_zret C hr narrow_b0 hP hS (by decide) (by decide) dX3_mayRun_53 (Or.inr ⟨fun h => h.2.2.2.1 c36, rfl, rfl, rfl⟩)  -- end 1: h1_0 : vp_in x1 8 ; h9_0 : vp_in x2 np ; h25_0 : ¬ (I (95 + 4 * x2.toNatClampNeg) 3) = (-1) ; c36 : (I (95 + 4 * x2.toNatClampNeg) 3) = x1
        · refine lv_aload_n hx hb dX3_mayRun_39 rfl (lv_at hl 0 rfl) ?_
          refine g_getN (v := .ref (ad (98 + 4 * x2.toNatClampNeg))) (T := TX1) C hP (95 + 4 * x2.toNatClampNeg) 4 (by omega) (kd_P (by omega) _ _) rfl inwX1 (by decide) kn_f113 rfl dX3_mayRun_40 ?_
          refine lv_iload_n hx hb dX3_mayRun_43 rfl (lv_at hl 2 rfl) ?_
          refine g_zald (v := I (98 + 4 * x2.toNatClampNeg) x1.toNatClampNeg) C hP (98 + 4 * x2.toNatClampNeg) 8 (by omega) (kd_PG (by omega)) x1.toNatClampNeg e1_0 rfl (by omega) (by decide) dX3_mayRun_44 ?_
          refine lv_if_eq (tgt := 52) hx hb dX3_mayRun_45 (by decide) (fun c45 => ?_) (fun c45 => ?_)
          · refine lv_iconst (v := 0) hx hb dX3_mayRun_52 (by decide) ?_
            exact gM_zret C hr narrow_b0 hP hS (by decide) (by decide) dX3_mayRun_53 (Or.inr ⟨fun h => h.2.2.2.2 c45, rfl, rfl, rfl⟩)  -- end 2: h1_0 : vp_in x1 8 ; h9_0 : vp_in x2 np ; h25_0 : ¬ (I (95 + 4 * x2.toNatClampNeg) 3) = (-1) ; c36 : ¬ (I (95 + 4 * x2.toNatClampNeg) 3) = x1 ; c45 : (I (98 + 4 * x2.toNatClampNeg) x1.toNatClampNeg) = 0
          · refine lv_iconst (v := 1) hx hb dX3_mayRun_48 (by decide) ?_
            refine lv_goto (tgt := 53) hx hb dX3_mayRun_49 (by decide) ?_
            exact gM_zret C hr narrow_b1 hP hS (by decide) (by decide) dX3_mayRun_53 (Or.inl ⟨⟨h1_0, h9_0, h25_0, c36, c45⟩, rfl, rfl, rfl⟩)  -- end 3: h1_0 : vp_in x1 8 ; h9_0 : vp_in x2 np ; h25_0 : ¬ (I (95 + 4 * x2.toNatClampNeg) 3) = (-1) ; c36 : ¬ (I (95 + 4 * x2.toNatClampNeg) 3) = x1 ; c45 : ¬ (I (98 + 4 * x2.toNatClampNeg) x1.toNatClampNeg) = 0
    · refine lv_if_ne (tgt := 17) hx hb dX3_mayRun_12 (by decide) (fun c => absurd c (by decide)) (fun c => ?_)
      refine lv_iconst (v := 0) hx hb dX3_mayRun_15 (by decide) ?_
      exact gM_zret C hr narrow_b0 hP hS (by decide) (by decide) dX3_mayRun_16 (Or.inr ⟨fun h => h9_0 h.2.1, rfl, rfl, rfl⟩)  -- end 4: h1_0 : vp_in x1 8 ; h9_0 : ¬ vp_in x2 np
  · refine lv_if_eq (tgt := 15) hx hb dX3_mayRun_4 (by decide) (fun c => ?_) (fun c => absurd c (by decide))
    refine lv_iconst (v := 0) hx hb dX3_mayRun_15 (by decide) ?_
    exact gM_zret C hr narrow_b0 hP hS (by decide) (by decide) dX3_mayRun_16 (Or.inr ⟨fun h => h1_0 h.1, rfl, rfl, rfl⟩)  -- end 5: h1_0 : ¬ vp_in x1 8
def pq_X3_requireMayRun (np : Nat) (x1 : Int32) (x2 : Int32) (I : MI) (L : ML) : MI → ML → Prop := fun I' L' => gMR np I x1 x2 ∧ I = I' ∧ L = L'
def px_X3_requireMayRun (np : Nat) (x1 : Int32) (x2 : Int32) (I : MI) (L : ML) : String → MI → ML → Prop := fun E I' L' => (¬ gMR np I x1 x2 ∧ xUO = E ∧ I = I' ∧ L = L')
set_option maxRecDepth 100000 in
set_option maxHeartbeats 4000000 in
theorem ct_X3_requireMayRun (l : Launch) (D : va_G) (cy : Nat → ClassId) (ad : Nat → Nat) (hJ : gJ ad) (hlf : l.stackTraces = false) (np : Nat) (x1 : Int32) (x2 : Int32) (I : MI) (L : ML) (hnp : I 0 3 = nI np) (hnp10 : np ≤ 10) : gTv l D cy ad yX3_requireMayRun cX3_requireMayRun 3 (gR 3 1 6) [.ref (ad 0), .int x1, .int x2] I L (pq_X3_requireMayRun np x1 x2 I L) (px_X3_requireMayRun np x1 x2 I L) := by
  refine gTv_of hJ (by decide +kernel) kc_X3_requireMayRun (Nat.le_of_ble_eq_true rfl) (fun p e s m below meth c A ls C hr ht hP hS hl => ?_)
  have hx := C.hx
  have hb := C.hb
  have hl : lv_has ls 3 [(0, .ref (ad 0)), (1, .int x1), (2, .int x2)] := hl
  refine lv_aload_n hx hb dX3_requireMayRun_0 rfl (lv_at hl 0 rfl) ?_
  refine lv_iload_n hx hb dX3_requireMayRun_1 rfl (lv_at hl 1 rfl) ?_
  refine lv_iload_n hx hb dX3_requireMayRun_2 rfl (lv_at hl 2 rfl) ?_
  refine gM_callVi (As := [.int x1, .int x2]) (rest := []) C hP hS hl.1 (ct_X3_mayRun l D cy ad hJ np x1 x2 I L hnp hnp10) fa_X3_mayRun kl_X3_212 ki_X3_mayRun kse_X3_mayRun (by decide) (T := TX3) rfl rfl rfl (by decide) (Nat.le_of_ble_eq_true rfl) (by decide) dX3_requireMayRun_3 rfl (fun r3 I3 L3 H locs hq hP hS => ?_)
  rcases hq with ⟨h3_0, rfl, rfl, rfl⟩ | ⟨h3_0, rfl, rfl, rfl⟩
  · obtain ⟨e3_0_1, l3_0_1⟩ := vp_ix h3_0.1
    obtain ⟨e3_0_2_1, l3_0_2_1⟩ := vp_ix h3_0.2.1
    refine lv_if_ne (tgt := 20) hx hb dX3_requireMayRun_6 (by decide) (fun c => ?_) (fun c => absurd c (by decide))
    exact gT_vret C hr hP hS (by decide) (by decide) dX3_requireMayRun_20 (⟨h3_0, rfl, rfl⟩)  -- end 0: h3_0 : gMR np I x1 x2
  · refine lv_if_ne (tgt := 20) hx hb dX3_requireMayRun_6 (by decide) (fun c => absurd c (by decide)) (fun c => ?_)
    exact g_throwSW (cls := xUO) C hlf hP hS hl.1 (by decide) kcl_X3_108 kini_UnsupportedOperationException ks_257 gat_112 gan_112 gao_112 dX3_requireMayRun_9 dX3_requireMayRun_12 dX3_requireMayRun_13 dX3_requireMayRun_16 dX3_requireMayRun_19 ht (by decide) (by decide) (by decide) (by decide) (by decide) ⟨h3_0, rfl, rfl, rfl⟩
def pq_X3_requireRequest (x1 : Int32) (I : MI) (L : ML) : MI → ML → Prop := fun I' L' => (vp_in x1 6 ∧ ¬ I (8 + x1.toNatClampNeg) 0 = -1) ∧ I = I' ∧ L = L'
def px_X3_requireRequest (x1 : Int32) (I : MI) (L : ML) : String → MI → ML → Prop := fun E I' L' => ((¬ (vp_in x1 6 ∧ ¬ I (8 + x1.toNatClampNeg) 0 = -1)) ∧ xIO = E ∧ I = I' ∧ L = L')
set_option maxRecDepth 100000 in
set_option maxHeartbeats 4000000 in
theorem ct_X3_requireRequest (l : Launch) (D : va_G) (cy : Nat → ClassId) (ad : Nat → Nat) (hJ : gJ ad) (hlf : l.stackTraces = false) (x1 : Int32) (I : MI) (L : ML) : gTv l D cy ad yX3_requireRequest cX3_requireRequest 2 (gR 4 1 6) [.ref (ad 0), .int x1] I L (pq_X3_requireRequest x1 I L) (px_X3_requireRequest x1 I L) := by
  refine gTv_of hJ (by decide +kernel) kc_X3_requireRequest (Nat.le_of_ble_eq_true rfl) (fun p e s m below meth c A ls C hr ht hP hS hl => ?_)
  have hx := C.hx
  have hb := C.hb
  have hl : lv_has ls 2 [(0, .ref (ad 0)), (1, .int x1)] := hl
  refine lv_iload_n hx hb dX3_requireRequest_0 rfl (lv_at hl 1 rfl) ?_
  refine lv_if_lt (tgt := 22) hx hb dX3_requireRequest_1 (by decide) (fun c1 => ?_) (fun c1 => ?_)
  · exact g_throwSW (cls := xIO) C hlf hP hS hl.1 (by decide) kcl_X3_194 kini_IndexOutOfBoundsException ks_261 gat_198 gan_198 gao_198 dX3_requireRequest_22 dX3_requireRequest_25 dX3_requireRequest_26 dX3_requireRequest_29 dX3_requireRequest_32 ht (by decide) (by decide) (by decide) (by decide) (by decide) ⟨fun h => vpC c1 h.1, rfl, rfl, rfl⟩
  · refine lv_iload_n hx hb dX3_requireRequest_4 rfl (lv_at hl 1 rfl) ?_
    refine lv_bipush (v := 6) hx hb dX3_requireRequest_5 (by decide) ?_
    refine lv_icmp_ge (tgt := 22) hx hb dX3_requireRequest_7 (by decide) (fun c7 => ?_) (fun c7 => ?_)
    · exact g_throwSW (cls := xIO) C hlf hP hS hl.1 (by decide) kcl_X3_194 kini_IndexOutOfBoundsException ks_261 gat_198 gan_198 gao_198 dX3_requireRequest_22 dX3_requireRequest_25 dX3_requireRequest_26 dX3_requireRequest_29 dX3_requireRequest_32 ht (by decide) (by decide) (by decide) (by decide) (by decide) ⟨fun h => vpB c7 rfl h.1, rfl, rfl, rfl⟩
    · have v7 : vp_in x1 6 := vpA c1 c7 rfl
      obtain ⟨e7, l7⟩ := vp_ix v7
      refine lv_aload_n hx hb dX3_requireRequest_10 rfl (lv_at hl 0 rfl) ?_
      refine g_get (v := .ref (ad 4)) (T := TX3) C hP 0 4 (by decide) rfl rfl inwX3 (by decide) kf_X3_28 rfl dX3_requireRequest_11 ?_
      refine lv_iload_n hx hb dX3_requireRequest_14 rfl (lv_at hl 1 rfl) ?_
      refine g_aldQ C hP x1.toNatClampNeg e7 (by omega) dX3_requireRequest_15 ?_
      refine gM_callVNi (As := []) (rest := []) C hP hS hl.1 (ct_X2_isInUse l D cy ad hJ x1.toNatClampNeg I L (by omega)) fa_X2_isInUse kn_m216 ki_X2_isInUse kse_X2_isInUse (by omega) (T := TX2) (kd_Q (by omega) _ _) rfl rfl (by decide) (Nat.le_of_ble_eq_true rfl) (by decide) dX3_requireRequest_16 rfl (fun r16 I16 L16 H locs hq hP hS => ?_)
      rcases hq with ⟨h16_0, rfl, rfl, rfl⟩ | ⟨h16_0, rfl, rfl, rfl⟩
      · refine lv_if_ne (tgt := 33) hx hb dX3_requireRequest_19 (by decide) (fun c => absurd c (by decide)) (fun c => ?_)
        exact g_throwSW (cls := xIO) C hlf hP hS hl.1 (by decide) kcl_X3_194 kini_IndexOutOfBoundsException ks_261 gat_198 gan_198 gao_198 dX3_requireRequest_22 dX3_requireRequest_25 dX3_requireRequest_26 dX3_requireRequest_29 dX3_requireRequest_32 ht (by decide) (by decide) (by decide) (by decide) (by decide) ⟨fun h => h.2 h16_0, rfl, rfl, rfl⟩
      · refine lv_if_ne (tgt := 33) hx hb dX3_requireRequest_19 (by decide) (fun c => ?_) (fun c => absurd c (by decide))
        exact gT_vret C hr hP hS (by decide) (by decide) dX3_requireRequest_33 (⟨⟨v7, h16_0⟩, rfl, rfl⟩)  -- end 0: c1 : ¬ x1 < 0 ; c7 : ¬ 6 ≤ x1 ; h16_0 : ¬ (I (8 + x1.toNatClampNeg) 0) = (-1)
def pq_X3_mayApprove (np : Nat) (qq : Nat) (x1 : Int32) (I : MI) (L : ML) : Int32 → MI → ML → Prop := fun r I' L' => ((gMR np I x1 (I (8 + qq) 1) ∧ ¬ I (8 + qq) 0 = x1) ∧ 1 = r ∧ I = I' ∧ L = L') ∨ (¬ (gMR np I x1 (I (8 + qq) 1) ∧ ¬ I (8 + qq) 0 = x1) ∧ 0 = r ∧ I = I' ∧ L = L')
set_option maxRecDepth 100000 in
set_option maxHeartbeats 4000000 in
theorem ct_X3_mayApprove (l : Launch) (D : va_G) (cy : Nat → ClassId) (ad : Nat → Nat) (hJ : gJ ad) (np : Nat) (qq : Nat) (x1 : Int32) (I : MI) (L : ML) (hnp : I 0 3 = nI np) (hnp10 : np ≤ 10) (hq : qq < 6) : gMi l D cy ad yX3_mayApprove cX3_mayApprove 3 .boolean (gR 3 0 0) [.ref (ad 0), .int x1, .ref (ad (8 + qq))] I L (pq_X3_mayApprove np qq x1 I L) := by
  refine gMi_of hJ (by decide +kernel) kc_X3_mayApprove (Nat.le_of_ble_eq_true rfl) (fun p e s m below meth c A ls C hr hP hS hl => ?_)
  have hx := C.hx
  have hb := C.hb
  have hl : lv_has ls 3 [(0, .ref (ad 0)), (1, .int x1), (2, .ref (ad (8 + qq)))] := hl
  refine lv_aload_n hx hb dX3_mayApprove_0 rfl (lv_at hl 0 rfl) ?_
  refine lv_iload_n hx hb dX3_mayApprove_1 rfl (lv_at hl 1 rfl) ?_
  refine lv_aload_n hx hb dX3_mayApprove_2 rfl (lv_at hl 2 rfl) ?_
  refine g_getN (v := .int (I (8 + qq) 1)) (T := TX2) C hP (8 + qq) 1 (by omega) (kd_Q hq _ _) rfl inwX2 (by decide) kn_f155 rfl dX3_mayApprove_3 ?_
  refine gM_callVi (As := [.int x1, .int (I (8 + qq) 1)]) (rest := []) C hP hS hl.1 (ct_X3_mayRun l D cy ad hJ np x1 (I (8 + qq) 1) I L hnp hnp10) fa_X3_mayRun kl_X3_212 ki_X3_mayRun kse_X3_mayRun (by decide) (T := TX3) rfl rfl rfl (by decide) (Nat.le_of_ble_eq_true rfl) (by decide) dX3_mayApprove_6 rfl (fun r6 I6 L6 H locs hq hP hS => ?_)
  rcases hq with ⟨h6_0, rfl, rfl, rfl⟩ | ⟨h6_0, rfl, rfl, rfl⟩
  · obtain ⟨e6_0_1, l6_0_1⟩ := vp_ix h6_0.1
    obtain ⟨e6_0_2_1, l6_0_2_1⟩ := vp_ix h6_0.2.1
    refine lv_if_eq (tgt := 24) hx hb dX3_mayApprove_9 (by decide) (fun c => absurd c (by decide)) (fun c => ?_)
    refine lv_aload_n hx hb dX3_mayApprove_12 rfl (lv_at hl 2 rfl) ?_
    refine g_getN (v := .int (I (8 + qq) 0)) (T := TX2) C hP (8 + qq) 0 (by omega) (kd_Q hq _ _) rfl inwX2 (by decide) kn_f152 rfl dX3_mayApprove_13 ?_
    refine lv_iload_n hx hb dX3_mayApprove_16 rfl (lv_at hl 1 rfl) ?_
    refine lv_icmp_eq (tgt := 24) hx hb dX3_mayApprove_17 (by decide) (fun c17 => ?_) (fun c17 => ?_)
    · refine lv_iconst (v := 0) hx hb dX3_mayApprove_24 (by decide) ?_
      exact gM_zret C hr narrow_b0 hP hS (by decide) (by decide) dX3_mayApprove_25 (Or.inr ⟨fun h => h.2 c17, rfl, rfl, rfl⟩)  -- end 0: h6_0 : gMR np I x1 (I (8 + qq) 1) ; c17 : (I (8 + qq) 0) = x1
    · refine lv_iconst (v := 1) hx hb dX3_mayApprove_20 (by decide) ?_
      refine lv_goto (tgt := 25) hx hb dX3_mayApprove_21 (by decide) ?_
      exact gM_zret C hr narrow_b1 hP hS (by decide) (by decide) dX3_mayApprove_25 (Or.inl ⟨⟨h6_0, c17⟩, rfl, rfl, rfl⟩)  -- end 1: h6_0 : gMR np I x1 (I (8 + qq) 1) ; c17 : ¬ (I (8 + qq) 0) = x1
  · refine lv_if_eq (tgt := 24) hx hb dX3_mayApprove_9 (by decide) (fun c => ?_) (fun c => absurd c (by decide))
    refine lv_iconst (v := 0) hx hb dX3_mayApprove_24 (by decide) ?_
    exact gM_zret C hr narrow_b0 hP hS (by decide) (by decide) dX3_mayApprove_25 (Or.inr ⟨fun h => h6_0 h.1, rfl, rfl, rfl⟩)  -- end 2: h6_0 : ¬ gMR np I x1 (I (8 + qq) 1)
def pq_X3_fileRequest (x1 : Int32) (x2 : Int32) (x3 : Int64) (I : MI) (L : ML) : Int32 → MI → ML → Prop := fun r I' L' => gfq (fun k => I (8 + k) 0) < 6 ∧ nI (gfq (fun k => I (8 + k) 0)) = r ∧ sI (sI I (8 + gfq (fun k => I (8 + k) 0)) 0 x1) (8 + gfq (fun k => I (8 + k) 0)) 1 x2 = I' ∧ sL L (8 + gfq (fun k => I (8 + k) 0)) 2 x3 = L'
def px_X3_fileRequest (x1 : Int32) (x2 : Int32) (x3 : Int64) (I : MI) (L : ML) : String → MI → ML → Prop := fun E I' L' => (¬ gfq (fun k => I (8 + k) 0) < 6 ∧ xIS = E ∧ I = I' ∧ L = L')
set_option maxRecDepth 100000 in
set_option maxHeartbeats 4000000 in
theorem ct_X3_fileRequest (l : Launch) (D : va_G) (cy : Nat → ClassId) (ad : Nat → Nat) (hJ : gJ ad) (hlf : l.stackTraces = false) (x1 : Int32) (x2 : Int32) (x3 : Int64) (I : MI) (L : ML) : gTi l D cy ad yX3_fileRequest cX3_fileRequest 6 .int (gR 3 1 6) [.ref (ad 0), .int x1, .int x2, .long x3] I L (pq_X3_fileRequest x1 x2 x3 I L) (px_X3_fileRequest x1 x2 x3 I L) := by
  refine gTi_of hJ (by decide +kernel) kc_X3_fileRequest (Nat.le_of_ble_eq_true rfl) (fun p e s m below meth c A ls C hr ht hP hS hl => ?_)
  have hx := C.hx
  have hb := C.hb
  have hl : lv_has ls 6 [(0, .ref (ad 0)), (1, .int x1), (2, .int x2), (3, .long x3)] := hl
  refine lv_iconst (v := 0) hx hb dX3_fileRequest_0 (by decide) ?_
  refine lv_istore (lv' := [(5, .int 0), (0, .ref (ad 0)), (1, .int x1), (2, .int x2), (3, .long x3)]) hx hb dX3_fileRequest_1 hl (by decide) rfl (fun ls hl => ?_)
  have loop3 : ∀ (N : Nat) (i : Nat) (hi : i ≤ 6) (hno : ∀ k, k < i → ¬ I (8 + k) 0 = -1) (hfu : 6 < i + N) (H : Heap) (locs : List Loc) (ls : Array Slot), gP D cy ad I L H → va_S A s.heap H locs → lv_has ls 6 [(0, .ref (ad 0)), (1, .int x1), (2, .int x2), (3, .long x3), (5, .int (nI i))] → W p l e (gR 3 1 6) s m ([.ref (ad 0), .int x1, .int x2, .long x3] : List Value).toArray below meth c H locs 0 0 (vx_MQ below (gQi D cy ad A (pq_X3_fileRequest x1 x2 x3 I L)) (gXC D cy ad A (px_X3_fileRequest x1 x2 x3 I L)) ([.ref (ad 0), .int x1, .int x2, .long x3] : List Value).toArray s 1 6 A) (F0 m 3 ls []) := by
    intro N
    induction N with
    | zero =>
      intro i hi hno hfu
      exact absurd hfu (by omega)
    | succ N ih =>
      intro i hi hno hfu H locs ls hP hS hl
      refine lv_iload hx hb dX3_fileRequest_3 (lv_at hl 4 rfl) ?_
      refine lv_bipush (v := 6) hx hb dX3_fileRequest_5 (by decide) ?_
      refine lv_icmp_ge (tgt := 45) hx hb dX3_fileRequest_7 (by decide) (fun c7 => ?_) (fun c7 => ?_)
      · have n7 : 6 ≤ i := (nI_leeE (show (6 : Int32) = nI 6 from rfl) rfl (by omega) (by omega)).mp c7
        exact g_throwS (cls := xIS) C hlf hP hS hl.1 (by decide) kcl_X3_61 kini_IllegalStateException ks_223 gat_65 gan_65 gao_65 dX3_fileRequest_45 dX3_fileRequest_48 dX3_fileRequest_49 dX3_fileRequest_51 dX3_fileRequest_54 ht (by decide) (by decide) (by decide) (by decide) (by decide) ⟨by rw [gfq_6 (fun k hk => hno k (by omega))]; decide, rfl, rfl, rfl⟩
      · have n7 : ¬ 6 ≤ i := (not_congr (nI_leeE (show (6 : Int32) = nI 6 from rfl) rfl (by omega) (by omega))).mp c7
        refine lv_aload_n hx hb dX3_fileRequest_10 rfl (lv_at hl 0 rfl) ?_
        refine g_get (v := .ref (ad 4)) (T := TX3) C hP 0 4 (by decide) rfl rfl inwX3 (by decide) kf_X3_28 rfl dX3_fileRequest_11 ?_
        refine lv_iload hx hb dX3_fileRequest_14 (lv_at hl 4 rfl) ?_
        refine g_aldQ C hP i rfl (by omega) dX3_fileRequest_16 ?_
        refine gM_callVNi (As := []) (rest := []) C hP hS hl.1 (ct_X2_isInUse l D cy ad hJ i I L (by omega)) fa_X2_isInUse kn_m216 ki_X2_isInUse kse_X2_isInUse (by omega) (T := TX2) (kd_Q (by omega) _ _) rfl rfl (by decide) (Nat.le_of_ble_eq_true rfl) (by decide) dX3_fileRequest_17 rfl (fun r17 I17 L17 H locs hq hP hS => ?_)
        rcases hq with ⟨h17_0, rfl, rfl, rfl⟩ | ⟨h17_0, rfl, rfl, rfl⟩
        · refine lv_if_ne (tgt := 39) hx hb dX3_fileRequest_20 (by decide) (fun c => absurd c (by decide)) (fun c => ?_)
          refine lv_aload_n hx hb dX3_fileRequest_23 rfl (lv_at hl 0 rfl) ?_
          refine g_get (v := .ref (ad 4)) (T := TX3) C hP 0 4 (by decide) rfl rfl inwX3 (by decide) kf_X3_28 rfl dX3_fileRequest_24 ?_
          refine lv_iload hx hb dX3_fileRequest_27 (lv_at hl 4 rfl) ?_
          refine g_aldQ C hP i rfl (by omega) dX3_fileRequest_29 ?_
          refine lv_iload_n hx hb dX3_fileRequest_30 rfl (lv_at hl 1 rfl) ?_
          refine lv_iload_n hx hb dX3_fileRequest_31 rfl (lv_at hl 2 rfl) ?_
          refine lv_lload_n hx hb dX3_fileRequest_32 rfl (lv_at hl 3 rfl) ?_
          refine gM_callVNv (As := [.int x1, .int x2, .long x3]) (rest := []) C hP hS hl.1 (ct_X2_fill l D cy ad hJ i x1 x2 x3 I L (by omega)) fa_X2_fill kn_m219 ki_X2_fill kse_X2_fill (by omega) (T := TX2) (kd_Q (by omega) _ _) rfl rfl (by decide) (Nat.le_of_ble_eq_true rfl) (by decide) dX3_fileRequest_33 rfl (fun I33 L33 H locs hq hP hS => ?_)
          obtain ⟨rfl, rfl⟩ := hq
          refine lv_iload hx hb dX3_fileRequest_36 (lv_at hl 4 rfl) ?_
          exact gT_iret C hr hP hS (by decide) (by decide) dX3_fileRequest_38 (by unfold pq_X3_fileRequest; rw [show gfq (fun k => I (8 + k) 0) = i from gfq_i i (by omega) hno h17_0]; exact ⟨by omega, rfl, rfl, rfl⟩)  -- end 0: n7 : ¬ 6 ≤ i ; h17_0 : (I (8 + i) 0) = (-1)
        · refine lv_if_ne (tgt := 39) hx hb dX3_fileRequest_20 (by decide) (fun c => ?_) (fun c => absurd c (by decide))
          refine lv_iinc (v := nI (i + 1)) (lv' := [(5, .int (nI (i + 1))), (0, .ref (ad 0)), (1, .int x1), (2, .int x2), (3, .long x3)]) hx hb dX3_fileRequest_39 hl (k := 4) rfl (nI_1 _) (by decide) rfl (fun ls hl => ?_)
          refine lv_goto (tgt := 3) hx hb dX3_fileRequest_42 (by decide) ?_
          exact ih (i + 1) (by omega) (lt_s hno h17_0) (by omega) _ _ _ hP hS (lv_sub hl [1, 2, 3, 4, 0] rfl)
  exact loop3 7 0 (Nat.zero_le _) (fun _ h => absurd h (Nat.not_lt_zero _)) (by omega) _ _ _ hP hS (lv_sub hl [1, 2, 3, 4, 0] rfl)
def pq_X3_negatePostings (I : MI) (L : ML) : MI → ML → Prop := fun I' L' => I = I' ∧ va_up L 7 (gng (L 7)) = L'
set_option maxRecDepth 100000 in
set_option maxHeartbeats 4000000 in
theorem ct_X3_negatePostings (l : Launch) (D : va_G) (cy : Nat → ClassId) (ad : Nat → Nat) (hJ : gJ ad) (I : MI) (L : ML) : gMv l D cy ad yX3_negatePostings cX3_negatePostings 2 (gR 5 0 0) [.ref (ad 0)] I L (pq_X3_negatePostings I L) := by
  refine gMv_of hJ (by decide +kernel) kc_X3_negatePostings (Nat.le_of_ble_eq_true rfl) (fun p e s m below meth c A ls C hr hP hS hl => ?_)
  have hx := C.hx
  have hb := C.hb
  have hl : lv_has ls 2 [(0, .ref (ad 0))] := hl
  refine lv_iconst (v := 0) hx hb dX3_negatePostings_0 (by decide) ?_
  refine lv_istore_n (lv' := [(1, .int 0), (0, .ref (ad 0))]) hx hb dX3_negatePostings_1 rfl hl (by decide) rfl (fun ls hl => ?_)
  have loop2 : ∀ (N : Nat) (i : Nat) (L1 : ML) (hi : i ≤ 4) (hL0 : ∀ c, c ≠ 7 → L1 c = L c) (hL1 : ∀ k, k < i → L1 7 k = -(L 7 k)) (hL2 : ∀ k, i ≤ k → L1 7 k = L 7 k) (hfu : 4 < i + N) (H : Heap) (locs : List Loc) (ls : Array Slot), gP D cy ad I L1 H → va_S A s.heap H locs → lv_has ls 2 [(0, .ref (ad 0)), (1, .int (nI i))] → W p l e (gR 5 0 0) s m ([.ref (ad 0)] : List Value).toArray below meth c H locs 0 0 (MQ below (gQv D cy ad A (pq_X3_negatePostings I L)) ([.ref (ad 0)] : List Value).toArray s 0 0 A) (F0 m 2 ls []) := by
    intro N
    induction N with
    | zero =>
      intro i L1 hi hL0 hL1 hL2 hfu
      exact absurd hfu (by omega)
    | succ N ih =>
      intro i L1 hi hL0 hL1 hL2 hfu H locs ls hP hS hl
      refine lv_iload_n hx hb dX3_negatePostings_2 rfl (lv_at hl 1 rfl) ?_
      refine lv_iconst (v := 4) hx hb dX3_negatePostings_3 (by decide) ?_
      refine lv_icmp_ge (tgt := 26) hx hb dX3_negatePostings_4 (by decide) (fun c4 => ?_) (fun c4 => ?_)
      · have n4 : 4 ≤ i := (nI_leeE (show (4 : Int32) = nI 4 from rfl) rfl (by omega) (by omega)).mp c4
        exact gM_vret C hr hP hS (by decide) (by decide) dX3_negatePostings_26 (⟨rfl, gng_end hL0 hi (by omega) hL1 hL2⟩)  -- end 0: n4 : 4 ≤ i
      · have n4 : ¬ 4 ≤ i := (not_congr (nI_leeE (show (4 : Int32) = nI 4 from rfl) rfl (by omega) (by omega))).mp c4
        refine lv_aload_n hx hb dX3_negatePostings_7 rfl (lv_at hl 0 rfl) ?_
        refine g_get (v := .ref (ad 7)) (T := TX3) C hP 0 8 (by decide) rfl rfl inwX3 (by decide) kf_X3_46 rfl dX3_negatePostings_8 ?_
        refine lv_iload_n hx hb dX3_negatePostings_11 rfl (lv_at hl 1 rfl) ?_
        refine lv_aload_n hx hb dX3_negatePostings_12 rfl (lv_at hl 0 rfl) ?_
        refine g_get (v := .ref (ad 7)) (T := TX3) C hP 0 8 (by decide) rfl rfl inwX3 (by decide) kf_X3_46 rfl dX3_negatePostings_13 ?_
        refine lv_iload_n hx hb dX3_negatePostings_16 rfl (lv_at hl 1 rfl) ?_
        refine g_lald (v := L1 7 i) C hP 7 4 (by decide) (fun _ _ => rfl) i rfl rfl (by omega) (by decide) dX3_negatePostings_17 ?_
        refine lv_lneg hx hb dX3_negatePostings_18 ?_
        refine g_last C hP hS 7 4 (by decide) (fun _ _ => rfl) i rfl (by omega) (by decide) dX3_negatePostings_19 (fun H locs hP hS => ?_)
        refine lv_iinc (v := nI (i + 1)) (lv' := [(1, .int (nI (i + 1))), (0, .ref (ad 0))]) hx hb dX3_negatePostings_20 hl (k := 1) rfl (nI_1 _) (by decide) rfl (fun ls hl => ?_)
        refine lv_goto (tgt := 2) hx hb dX3_negatePostings_23 (by decide) ?_
        exact ih (i + 1) _ (by omega) (fun c hc => (sL_row hc).trans (hL0 c hc)) (gng_step hL1 hL2) (fun k hk => by rw [sL_at, if_neg (fun z => by omega)]; exact hL2 k (by omega)) (by omega) _ _ _ hP hS (lv_sub hl [1, 0] rfl)
  exact loop2 5 0 L (Nat.zero_le _) (fun _ _ => rfl) (fun _ h => absurd h (Nat.not_lt_zero _)) (fun _ _ => rfl) (by omega) _ _ _ hP hS (lv_sub hl [1, 0] rfl)
def pq_X3_requireNoLineFails (pp : Nat) (nn : Nat) (I : MI) (L : ML) : MI → ML → Prop := fun I' L' => (∀ k, k < nn → ¬ gfl (I (96 + 4 * pp)) (L 1) (L 2) (L 7) k) ∧ I = I' ∧ L = L'
def px_X3_requireNoLineFails (pp : Nat) (nn : Nat) (I : MI) (L : ML) : String → MI → ML → Prop := fun E I' L' => ((¬ (∀ k, k < nn → ¬ gfl (I (96 + 4 * pp)) (L 1) (L 2) (L 7) k)) ∧ xIS = E ∧ I = I' ∧ L = L')
set_option maxRecDepth 100000 in
set_option maxHeartbeats 4000000 in
theorem ct_X3_requireNoLineFails (l : Launch) (D : va_G) (cy : Nat → ClassId) (ad : Nat → Nat) (hJ : gJ ad) (hlf : l.stackTraces = false) (pp : Nat) (nn : Nat) (I : MI) (L : ML) (hp : pp < 10) (hn : I (95 + 4 * pp) 2 = nI nn) (hn4 : nn ≤ 4) (hac : ∀ k, k < nn → vp_in (I (96 + 4 * pp) k) 8) : gTv l D cy ad yX3_requireNoLineFails cX3_requireNoLineFails 8 (gR 4 1 6) [.ref (ad 0), .ref (ad (95 + 4 * pp))] I L (pq_X3_requireNoLineFails pp nn I L) (px_X3_requireNoLineFails pp nn I L) := by
  refine gTv_of hJ (by decide +kernel) kc_X3_requireNoLineFails (Nat.le_of_ble_eq_true rfl) (fun p e s m below meth c A ls C hr ht hP hS hl => ?_)
  have hx := C.hx
  have hb := C.hb
  have hl : lv_has ls 8 [(0, .ref (ad 0)), (1, .ref (ad (95 + 4 * pp)))] := hl
  refine lv_iconst (v := 0) hx hb dX3_requireNoLineFails_0 (by decide) ?_
  refine lv_istore_n (lv' := [(2, .int 0), (0, .ref (ad 0)), (1, .ref (ad (95 + 4 * pp)))]) hx hb dX3_requireNoLineFails_1 rfl hl (by decide) rfl (fun ls hl => ?_)
  have loop2 : ∀ (N : Nat) (i : Nat) (hi : i ≤ nn) (hno : ∀ k, k < i → ¬ gfl (I (96 + 4 * pp)) (L 1) (L 2) (L 7) k) (hfu : nn < i + N) (H : Heap) (locs : List Loc) (ls : Array Slot), gP D cy ad I L H → va_S A s.heap H locs → lv_has ls 8 [(0, .ref (ad 0)), (1, .ref (ad (95 + 4 * pp))), (2, .int (nI i))] → W p l e (gR 4 1 6) s m ([.ref (ad 0), .ref (ad (95 + 4 * pp))] : List Value).toArray below meth c H locs 0 0 (vx_MQ below (gQv D cy ad A (pq_X3_requireNoLineFails pp nn I L)) (gXC D cy ad A (px_X3_requireNoLineFails pp nn I L)) ([.ref (ad 0), .ref (ad (95 + 4 * pp))] : List Value).toArray s 1 6 A) (F0 m 2 ls []) := by
    intro N
    induction N with
    | zero =>
      intro i hi hno hfu
      exact absurd hfu (by omega)
    | succ N ih =>
      intro i hi hno hfu H locs ls hP hS hl
      refine lv_iload_n hx hb dX3_requireNoLineFails_2 rfl (lv_at hl 2 rfl) ?_
      refine lv_aload_n hx hb dX3_requireNoLineFails_3 rfl (lv_at hl 1 rfl) ?_
      refine g_getN (v := .int (nI nn)) (T := TX1) C hP (95 + 4 * pp) 2 (by omega) (kd_P hp _ _) rfl inwX1 (by decide) kn_f88 (congrArg (fun z => some (Value.int z)) hn) dX3_requireNoLineFails_4 ?_
      refine lv_icmp_ge (tgt := 81) hx hb dX3_requireNoLineFails_7 (by decide) (fun c7 => ?_) (fun c7 => ?_)
      · have n7 : nn ≤ i := (nI_leeE rfl rfl (by omega) (by omega)).mp c7
        exact gT_vret C hr hP hS (by decide) (by decide) dX3_requireNoLineFails_81 (⟨fun k hk => hno k (by omega), rfl, rfl⟩)  -- end 0: n7 : nn ≤ i
      · have n7 : ¬ nn ≤ i := (not_congr (nI_leeE rfl rfl (by omega) (by omega))).mp c7
        refine lv_aload_n hx hb dX3_requireNoLineFails_10 rfl (lv_at hl 1 rfl) ?_
        refine g_getN (v := .ref (ad (96 + 4 * pp))) (T := TX1) C hP (95 + 4 * pp) 0 (by omega) (kd_P hp _ _) rfl inwX1 (by decide) kn_f242 rfl dX3_requireNoLineFails_11 ?_
        refine lv_iload_n hx hb dX3_requireNoLineFails_14 rfl (lv_at hl 2 rfl) ?_
        refine g_iald (v := I (96 + 4 * pp) i) C hP (96 + 4 * pp) 4 (by omega) (kd_PA hp) i rfl rfl (by omega) (by decide) dX3_requireNoLineFails_15 ?_
        obtain ⟨e16, l16⟩ := vp_ix (hac i (by omega))
        refine lv_istore_n (lv' := [(3, .int (I (96 + 4 * pp) i)), (0, .ref (ad 0)), (1, .ref (ad (95 + 4 * pp))), (2, .int (nI i))]) hx hb dX3_requireNoLineFails_16 rfl hl (by decide) rfl (fun ls hl => ?_)
        refine lv_aload_n hx hb dX3_requireNoLineFails_17 rfl (lv_at hl 1 rfl) ?_
        refine g_get (v := .ref (ad 1)) (T := TX3) C hP 0 0 (by decide) rfl rfl inwX3 (by decide) kf_X3_9 rfl dX3_requireNoLineFails_18 ?_
        refine lv_iload_n hx hb dX3_requireNoLineFails_21 rfl (lv_at hl 0 rfl) ?_
        refine g_lald (v := L 1 ((I (96 + 4 * pp) i).toNatClampNeg)) C hP 1 8 (by decide) (fun _ _ => rfl) ((I (96 + 4 * pp) i).toNatClampNeg) e16 rfl (by omega) (by decide) dX3_requireNoLineFails_22 ?_
        refine lv_lstore (lv' := [(4, .long (L 1 ((I (96 + 4 * pp) i).toNatClampNeg))), (3, .int (I (96 + 4 * pp) i)), (0, .ref (ad 0)), (1, .ref (ad (95 + 4 * pp))), (2, .int (nI i))]) hx hb dX3_requireNoLineFails_23 hl (by decide) rfl (fun ls hl => ?_)
        refine lv_lload hx hb dX3_requireNoLineFails_25 (lv_at hl 0 rfl) ?_
        refine lv_aload_n hx hb dX3_requireNoLineFails_27 rfl (lv_at hl 2 rfl) ?_
        refine g_get (v := .ref (ad 7)) (T := TX3) C hP 0 8 (by decide) rfl rfl inwX3 (by decide) kf_X3_46 rfl dX3_requireNoLineFails_28 ?_
        refine lv_iload_n hx hb dX3_requireNoLineFails_31 rfl (lv_at hl 4 rfl) ?_
        refine g_lald (v := L 7 i) C hP 7 4 (by decide) (fun _ _ => rfl) i rfl rfl (by omega) (by decide) dX3_requireNoLineFails_32 ?_
        refine lv_ladd hx hb dX3_requireNoLineFails_33 ?_
        refine lv_lstore (lv' := [(6, .long ((L 1 ((I (96 + 4 * pp) i).toNatClampNeg)) + (L 7 i))), (4, .long (L 1 ((I (96 + 4 * pp) i).toNatClampNeg))), (3, .int (I (96 + 4 * pp) i)), (0, .ref (ad 0)), (1, .ref (ad (95 + 4 * pp))), (2, .int (nI i))]) hx hb dX3_requireNoLineFails_34 hl (by decide) rfl (fun ls hl => ?_)
        refine lv_lload hx hb dX3_requireNoLineFails_36 (lv_at hl 0 rfl) ?_
        refine lv_ldc2 (v := 1000000000000) hx hb C.hown (C.hts _ kcn_X3_249) dX3_requireNoLineFails_38 ?_
        refine W.lcmp hx hb dX3_requireNoLineFails_41 ?_
        refine lv_if_gt (tgt := 65) hx hb dX3_requireNoLineFails_42 (by decide) (fun c42 => ?_) (fun c42 => ?_)
        · have n42 : 1000000000000 < ((L 1 ((I (96 + 4 * pp) i).toNatClampNeg)) + (L 7 i)) := (lg_cmp_gt _ _).mp c42
          exact g_throwS (cls := xIS) C hlf hP hS hl.1 (by decide) kcl_X3_61 kini_IllegalStateException ks_251 gat_65 gan_65 gao_65 dX3_requireNoLineFails_65 dX3_requireNoLineFails_68 dX3_requireNoLineFails_69 dX3_requireNoLineFails_71 dX3_requireNoLineFails_74 ht (by decide) (by decide) (by decide) (by decide) (by decide) ⟨fun z => z i (by omega) (Or.inl n42), rfl, rfl, rfl⟩
        · have n42 : ¬ 1000000000000 < ((L 1 ((I (96 + 4 * pp) i).toNatClampNeg)) + (L 7 i)) := (not_congr (lg_cmp_gt _ _)).mp c42
          refine lv_lload hx hb dX3_requireNoLineFails_45 (lv_at hl 0 rfl) ?_
          refine lv_aload_n hx hb dX3_requireNoLineFails_47 rfl (lv_at hl 3 rfl) ?_
          refine g_get (v := .ref (ad 2)) (T := TX3) C hP 0 1 (by decide) rfl rfl inwX3 (by decide) kf_X3_13 rfl dX3_requireNoLineFails_48 ?_
          refine lv_iload_n hx hb dX3_requireNoLineFails_51 rfl (lv_at hl 2 rfl) ?_
          refine g_lald (v := L 2 ((I (96 + 4 * pp) i).toNatClampNeg)) C hP 2 8 (by decide) (fun _ _ => rfl) ((I (96 + 4 * pp) i).toNatClampNeg) e16 rfl (by omega) (by decide) dX3_requireNoLineFails_52 ?_
          refine W.lcmp hx hb dX3_requireNoLineFails_53 ?_
          refine lv_if_ge (tgt := 75) hx hb dX3_requireNoLineFails_54 (by decide) (fun c54 => ?_) (fun c54 => ?_)
          · have n54 : (L 2 ((I (96 + 4 * pp) i).toNatClampNeg)) ≤ ((L 1 ((I (96 + 4 * pp) i).toNatClampNeg)) + (L 7 i)) := (lg_cmp_ge _ _).mp c54
            refine lv_iinc (v := nI (i + 1)) (lv' := [(2, .int (nI (i + 1))), (6, .long ((L 1 ((I (96 + 4 * pp) i).toNatClampNeg)) + (L 7 i))), (4, .long (L 1 ((I (96 + 4 * pp) i).toNatClampNeg))), (3, .int (I (96 + 4 * pp) i)), (0, .ref (ad 0)), (1, .ref (ad (95 + 4 * pp)))]) hx hb dX3_requireNoLineFails_75 hl (k := 5) rfl (nI_1 _) (by decide) rfl (fun ls hl => ?_)
            refine lv_goto (tgt := 2) hx hb dX3_requireNoLineFails_78 (by decide) ?_
            have n54n := Int64.not_lt.mpr n54
            exact ih (i + 1) (by omega) (lt_s hno (fun z => z.elim (fun z => n42 z) (fun z => n54n z.1))) (by omega) _ _ _ hP hS (lv_sub hl [4, 5, 0] rfl)
          · have n54 : ¬ (L 2 ((I (96 + 4 * pp) i).toNatClampNeg)) ≤ ((L 1 ((I (96 + 4 * pp) i).toNatClampNeg)) + (L 7 i)) := (not_congr (lg_cmp_ge _ _)).mp c54
            refine lv_lload hx hb dX3_requireNoLineFails_57 (lv_at hl 0 rfl) ?_
            refine lv_lload hx hb dX3_requireNoLineFails_59 (lv_at hl 1 rfl) ?_
            refine W.lcmp hx hb dX3_requireNoLineFails_61 ?_
            refine lv_if_ge (tgt := 75) hx hb dX3_requireNoLineFails_62 (by decide) (fun c62 => ?_) (fun c62 => ?_)
            · have n62 : (L 1 ((I (96 + 4 * pp) i).toNatClampNeg)) ≤ ((L 1 ((I (96 + 4 * pp) i).toNatClampNeg)) + (L 7 i)) := (lg_cmp_ge _ _).mp c62
              refine lv_iinc (v := nI (i + 1)) (lv' := [(2, .int (nI (i + 1))), (6, .long ((L 1 ((I (96 + 4 * pp) i).toNatClampNeg)) + (L 7 i))), (4, .long (L 1 ((I (96 + 4 * pp) i).toNatClampNeg))), (3, .int (I (96 + 4 * pp) i)), (0, .ref (ad 0)), (1, .ref (ad (95 + 4 * pp)))]) hx hb dX3_requireNoLineFails_75 hl (k := 5) rfl (nI_1 _) (by decide) rfl (fun ls hl => ?_)
              refine lv_goto (tgt := 2) hx hb dX3_requireNoLineFails_78 (by decide) ?_
              have n62n := Int64.not_lt.mpr n62
              exact ih (i + 1) (by omega) (lt_s hno (fun z => z.elim (fun z => n42 z) (fun z => n62n z.2))) (by omega) _ _ _ hP hS (lv_sub hl [4, 5, 0] rfl)
            · have n62 : ¬ (L 1 ((I (96 + 4 * pp) i).toNatClampNeg)) ≤ ((L 1 ((I (96 + 4 * pp) i).toNatClampNeg)) + (L 7 i)) := (not_congr (lg_cmp_ge _ _)).mp c62
              exact g_throwS (cls := xIS) C hlf hP hS hl.1 (by decide) kcl_X3_61 kini_IllegalStateException ks_251 gat_65 gan_65 gao_65 dX3_requireNoLineFails_65 dX3_requireNoLineFails_68 dX3_requireNoLineFails_69 dX3_requireNoLineFails_71 dX3_requireNoLineFails_74 ht (by decide) (by decide) (by decide) (by decide) (by decide) ⟨fun z => z i (by omega) (Or.inr ⟨Int64.not_le.mp n54, Int64.not_le.mp n62⟩), rfl, rfl, rfl⟩
  exact loop2 (nn + 1) 0 (Nat.zero_le _) (fun _ h => absurd h (Nat.not_lt_zero _)) (by omega) _ _ _ hP hS (lv_sub hl [1, 2, 0] rfl)
def pq_X3_countUnsoundBalances (ne : Nat) (I : MI) (L : ML) : Int32 → MI → ML → Prop := fun r I' L' => nI (gcn (L 1) (L (54 + ne)) 8) = r ∧ I = I' ∧ L = L'
set_option maxRecDepth 100000 in
set_option maxHeartbeats 4000000 in
theorem ct_X3_countUnsoundBalances (l : Launch) (D : va_G) (cy : Nat → ClassId) (ad : Nat → Nat) (hJ : gJ ad) (ne : Nat) (I : MI) (L : ML) (hne : I 0 6 = nI ne) (hne40 : ne ≤ 40) : gMi l D cy ad yX3_countUnsoundBalances cX3_countUnsoundBalances 3 .int (gR 4 0 0) [.ref (ad 0)] I L (pq_X3_countUnsoundBalances ne I L) := by
  refine gMi_of hJ (by decide +kernel) kc_X3_countUnsoundBalances (Nat.le_of_ble_eq_true rfl) (fun p e s m below meth c A ls C hr hP hS hl => ?_)
  have hx := C.hx
  have hb := C.hb
  have hl : lv_has ls 3 [(0, .ref (ad 0))] := hl
  refine lv_iconst (v := 0) hx hb dX3_countUnsoundBalances_0 (by decide) ?_
  refine lv_istore_n (lv' := [(1, .int 0), (0, .ref (ad 0))]) hx hb dX3_countUnsoundBalances_1 rfl hl (by decide) rfl (fun ls hl => ?_)
  refine lv_iconst (v := 0) hx hb dX3_countUnsoundBalances_2 (by decide) ?_
  refine lv_istore_n (lv' := [(2, .int 0), (1, .int 0), (0, .ref (ad 0))]) hx hb dX3_countUnsoundBalances_3 rfl hl (by decide) rfl (fun ls hl => ?_)
  have loop4 : ∀ (N : Nat) (i : Nat) (hi : i ≤ 8) (hfu : 8 < i + N) (H : Heap) (locs : List Loc) (ls : Array Slot), gP D cy ad I L H → va_S A s.heap H locs → lv_has ls 3 [(0, .ref (ad 0)), (1, .int (nI (gcn (L 1) (L (54 + ne)) i))), (2, .int (nI i))] → W p l e (gR 4 0 0) s m ([.ref (ad 0)] : List Value).toArray below meth c H locs 0 0 (MQ below (gQi D cy ad A (pq_X3_countUnsoundBalances ne I L)) ([.ref (ad 0)] : List Value).toArray s 0 0 A) (F0 m 4 ls []) := by
    intro N
    induction N with
    | zero =>
      intro i hi hfu
      exact absurd hfu (by omega)
    | succ N ih =>
      intro i hi hfu H locs ls hP hS hl
      refine lv_iload_n hx hb dX3_countUnsoundBalances_4 rfl (lv_at hl 2 rfl) ?_
      refine lv_bipush (v := 8) hx hb dX3_countUnsoundBalances_5 (by decide) ?_
      refine lv_icmp_ge (tgt := 40) hx hb dX3_countUnsoundBalances_7 (by decide) (fun c7 => ?_) (fun c7 => ?_)
      · have n7 : 8 ≤ i := (nI_leeE (show (8 : Int32) = nI 8 from rfl) rfl (by omega) (by omega)).mp c7
        refine lv_iload_n hx hb dX3_countUnsoundBalances_40 rfl (lv_at hl 1 rfl) ?_
        exact gM_iret C hr hP hS (by decide) (by decide) dX3_countUnsoundBalances_41 (⟨by rw [show i = 8 by omega], rfl, rfl⟩)  -- end 0: n7 : 8 ≤ i
      · have n7 : ¬ 8 ≤ i := (not_congr (nI_leeE (show (8 : Int32) = nI 8 from rfl) rfl (by omega) (by omega))).mp c7
        refine lv_aload_n hx hb dX3_countUnsoundBalances_10 rfl (lv_at hl 0 rfl) ?_
        refine g_get (v := .ref (ad 1)) (T := TX3) C hP 0 0 (by decide) rfl rfl inwX3 (by decide) kf_X3_9 rfl dX3_countUnsoundBalances_11 ?_
        refine lv_iload_n hx hb dX3_countUnsoundBalances_14 rfl (lv_at hl 2 rfl) ?_
        refine g_lald (v := L 1 i) C hP 1 8 (by decide) (fun _ _ => rfl) i rfl rfl (by omega) (by decide) dX3_countUnsoundBalances_15 ?_
        refine lv_aload_n hx hb dX3_countUnsoundBalances_16 rfl (lv_at hl 0 rfl) ?_
        refine g_get (v := .ref (ad 6)) (T := TX3) C hP 0 7 (by decide) rfl rfl inwX3 (by decide) kf_X3_43 rfl dX3_countUnsoundBalances_17 ?_
        refine lv_aload_n hx hb dX3_countUnsoundBalances_20 rfl (lv_at hl 0 rfl) ?_
        refine g_get (v := .int (nI ne)) (T := TX3) C hP 0 6 (by decide) rfl rfl inwX3 (by decide) kf_X3_38 (congrArg (fun z => some (Value.int z)) hne) dX3_countUnsoundBalances_21 ?_
        refine g_aldT C hP ne rfl (by omega) dX3_countUnsoundBalances_24 ?_
        refine lv_iload_n hx hb dX3_countUnsoundBalances_25 rfl (lv_at hl 2 rfl) ?_
        refine g_lald (v := L (54 + ne) i) C hP (54 + ne) 8 (by omega) (kd_T (by omega)) i rfl rfl (by omega) (by decide) dX3_countUnsoundBalances_26 ?_
        refine W.lcmp hx hb dX3_countUnsoundBalances_27 ?_
        refine lv_if_eq (tgt := 34) hx hb dX3_countUnsoundBalances_28 (by decide) (fun c28 => ?_) (fun c28 => ?_)
        · have n28 : (L 1 i) = (L (54 + ne) i) := (lg_cmp_eq _ _).mp c28
          refine lv_iinc (v := nI (i + 1)) (lv' := [(2, .int (nI (i + 1))), (0, .ref (ad 0)), (1, .int (nI (gcn (L 1) (L (54 + ne)) i)))]) hx hb dX3_countUnsoundBalances_34 hl (k := 2) rfl (nI_1 _) (by decide) rfl (fun ls hl => ?_)
          refine lv_goto (tgt := 4) hx hb dX3_countUnsoundBalances_37 (by decide) ?_
          have e9 : gcn (L 1) (L (54 + ne)) (i + 1) = gcn (L 1) (L (54 + ne)) i := by simp only [gcn, if_pos n28, Nat.add_zero]
          rw [← e9] at hl
          exact ih (i + 1) (by omega) (by omega) _ _ _ hP hS (lv_sub hl [1, 2, 0] rfl)
        · have n28 : ¬ (L 1 i) = (L (54 + ne) i) := (not_congr (lg_cmp_eq _ _)).mp c28
          refine lv_iinc (v := nI (gcn (L 1) (L (54 + ne)) i + 1)) (lv' := [(1, .int (nI (gcn (L 1) (L (54 + ne)) i + 1))), (0, .ref (ad 0)), (2, .int (nI i))]) hx hb dX3_countUnsoundBalances_31 hl (k := 1) rfl (nI_1 _) (by decide) rfl (fun ls hl => ?_)
          refine lv_iinc (v := nI (i + 1)) (lv' := [(2, .int (nI (i + 1))), (1, .int (nI (gcn (L 1) (L (54 + ne)) i + 1))), (0, .ref (ad 0))]) hx hb dX3_countUnsoundBalances_34 hl (k := 2) rfl (nI_1 _) (by decide) rfl (fun ls hl => ?_)
          refine lv_goto (tgt := 4) hx hb dX3_countUnsoundBalances_37 (by decide) ?_
          have e9 : gcn (L 1) (L (54 + ne)) (i + 1) = gcn (L 1) (L (54 + ne)) i + 1 := by simp only [gcn, if_neg n28]
          rw [← e9] at hl
          exact ih (i + 1) (by omega) (by omega) _ _ _ hP hS (lv_sub hl [2, 1, 0] rfl)
  exact loop4 9 0 (Nat.zero_le _) (by omega) _ _ _ hP hS (lv_sub hl [2, 1, 0] rfl)
def pq_X3_requireBooksTakeRun (ne : Nat) (I : MI) (L : ML) : MI → ML → Prop := fun I' L' => ((gcn (L 1) (L (54 + ne)) 8) = 0 ∧ ne < 40 ∧ I = I' ∧ L = L')
def px_X3_requireBooksTakeRun (ne : Nat) (I : MI) (L : ML) : String → MI → ML → Prop := fun E I' L' => ((gcn (L 1) (L (54 + ne)) 8) = 0 ∧ ¬ ne < 40 ∧ xIS = E ∧ I = I' ∧ L = L') ∨ (¬ (gcn (L 1) (L (54 + ne)) 8) = 0 ∧ xIS = E ∧ I = I' ∧ L = L')
set_option maxRecDepth 100000 in
set_option maxHeartbeats 4000000 in
theorem ct_X3_requireBooksTakeRun (l : Launch) (D : va_G) (cy : Nat → ClassId) (ad : Nat → Nat) (hJ : gJ ad) (hlf : l.stackTraces = false) (ne : Nat) (I : MI) (L : ML) (hne : I 0 6 = nI ne) (hne40 : ne ≤ 40) : gTv l D cy ad yX3_requireBooksTakeRun cX3_requireBooksTakeRun 1 (gR 3 1 6) [.ref (ad 0)] I L (pq_X3_requireBooksTakeRun ne I L) (px_X3_requireBooksTakeRun ne I L) := by
  refine gTv_of hJ (by decide +kernel) kc_X3_requireBooksTakeRun (Nat.le_of_ble_eq_true rfl) (fun p e s m below meth c A ls C hr ht hP hS hl => ?_)
  have hx := C.hx
  have hb := C.hb
  have hl : lv_has ls 1 [(0, .ref (ad 0))] := hl
  refine lv_aload_n hx hb dX3_requireBooksTakeRun_0 rfl (lv_at hl 0 rfl) ?_
  refine gM_callVi (As := []) (rest := []) C hP hS hl.1 (ct_X3_countUnsoundBalances l D cy ad hJ ne I L hne hne40) fa_X3_countUnsoundBalances kl_X3_191 ki_X3_countUnsoundBalances kse_X3_countUnsoundBalances (by decide) (T := TX3) rfl rfl rfl (by decide) (Nat.le_of_ble_eq_true rfl) (by decide) dX3_requireBooksTakeRun_1 rfl (fun r1 I1 L1 H locs hq hP hS => ?_)
  obtain ⟨rfl, rfl, rfl⟩ := hq
  have hg8 := gcn_le (L 1) (L (54 + ne)) 8
  refine lv_if_eq (tgt := 17) hx hb dX3_requireBooksTakeRun_4 (by decide) (fun c4 => ?_) (fun c4 => ?_)
  · have n4 : (gcn (L 1) (L (54 + ne)) 8) = 0 := (nI_eqqE rfl (show (0 : Int32) = nI 0 from rfl) (by omega) (by omega)).mp c4
    refine lv_aload_n hx hb dX3_requireBooksTakeRun_17 rfl (lv_at hl 0 rfl) ?_
    refine g_get (v := .int (nI ne)) (T := TX3) C hP 0 6 (by decide) rfl rfl inwX3 (by decide) kf_X3_38 (congrArg (fun z => some (Value.int z)) hne) dX3_requireBooksTakeRun_18 ?_
    refine lv_bipush (v := 40) hx hb dX3_requireBooksTakeRun_21 (by decide) ?_
    refine lv_icmp_lt (tgt := 36) hx hb dX3_requireBooksTakeRun_23 (by decide) (fun c23 => ?_) (fun c23 => ?_)
    · have n23 : ne < 40 := (nI_lttE rfl (show (40 : Int32) = nI 40 from rfl) (by omega) (by omega)).mp c23
      exact gT_vret C hr hP hS (by decide) (by decide) dX3_requireBooksTakeRun_36 (⟨n4, n23, rfl, rfl⟩)
    · have n23 : ¬ ne < 40 := (not_congr (nI_lttE rfl (show (40 : Int32) = nI 40 from rfl) (by omega) (by omega))).mp c23
      exact g_throwS (cls := xIS) C hlf hP hS hl.1 (by decide) kcl_X3_61 kini_IllegalStateException ks_255 gat_65 gan_65 gao_65 dX3_requireBooksTakeRun_26 dX3_requireBooksTakeRun_29 dX3_requireBooksTakeRun_30 dX3_requireBooksTakeRun_32 dX3_requireBooksTakeRun_35 ht (by decide) (by decide) (by decide) (by decide) (by decide) (Or.inl (⟨n4, n23, rfl, rfl, rfl⟩))
  · have n4 : ¬ (gcn (L 1) (L (54 + ne)) 8) = 0 := (not_congr (nI_eqqE rfl (show (0 : Int32) = nI 0 from rfl) (by omega) (by omega))).mp c4
    exact g_throwS (cls := xIS) C hlf hP hS hl.1 (by decide) kcl_X3_61 kini_IllegalStateException ks_253 gat_65 gan_65 gao_65 dX3_requireBooksTakeRun_7 dX3_requireBooksTakeRun_10 dX3_requireBooksTakeRun_11 dX3_requireBooksTakeRun_13 dX3_requireBooksTakeRun_16 ht (by decide) (by decide) (by decide) (by decide) (by decide) (Or.inr (⟨n4, rfl, rfl, rfl⟩))
end
section
def pq_X3_runAndLog (pp : Nat) (nn : Nat) (ne : Nat) (x1 : Int32) (x2 : Int64) (x4 : Int32) (x5 : Int32) (x6 : Int32) (I : MI) (L : ML) : Int32 → MI → ML → Prop := fun r I' L' => (∀ k, k < nn → ¬ gfl (I (96 + 4 * pp)) ((gPW L x2 (I (97 + 4 * pp)) nn x6) 1) ((gPW L x2 (I (97 + 4 * pp)) nn x6) 2) ((gPW L x2 (I (97 + 4 * pp)) nn x6) 7) k) ∧ nI ne = r ∧ sI (sI (sI (sI (sI I (14 + ne) 0 x1) (14 + ne) 2 x4) (14 + ne) 3 x5) (14 + ne) 4 x6) 0 6 (nI ne + 1) = I' ∧ sL (gRL (gcp (gPW L x2 (I (97 + 4 * pp)) nn x6) ne) (I (96 + 4 * pp)) (54 + (ne + 1)) nn) (14 + ne) 1 x2 = L'
def px_X3_runAndLog (pp : Nat) (nn : Nat) (ne : Nat) (x1 : Int32) (x2 : Int64) (x4 : Int32) (x5 : Int32) (x6 : Int32) (I : MI) (L : ML) : String → MI → ML → Prop := fun E I' L' => ((¬ (∀ k, k < nn → ¬ gfl (I (96 + 4 * pp)) ((gPW L x2 (I (97 + 4 * pp)) nn x6) 1) ((gPW L x2 (I (97 + 4 * pp)) nn x6) 2) ((gPW L x2 (I (97 + 4 * pp)) nn x6) 7) k)) ∧ xIS = E ∧ I = I' ∧ (gPW L x2 (I (97 + 4 * pp)) nn x6) = L')
set_option maxRecDepth 100000 in
set_option maxHeartbeats 4000000 in
theorem ct_X3_runAndLog (l : Launch) (D : va_G) (cy : Nat → ClassId) (ad : Nat → Nat) (hJ : gJ ad) (hlf : l.stackTraces = false) (pp : Nat) (nn : Nat) (ne : Nat) (x1 : Int32) (x2 : Int64) (x4 : Int32) (x5 : Int32) (x6 : Int32) (I : MI) (L : ML) (hx1 : x1 = nI pp) (hp : pp < 10) (hn : I (95 + 4 * pp) 2 = nI nn) (hn1 : 1 ≤ nn) (hn4 : nn ≤ 4) (hac : ∀ k, k < nn → vp_in (I (96 + 4 * pp) k) 8) (hne : I 0 6 = nI ne) (hne40 : ne < 40) : gTi l D cy ad yX3_runAndLog cX3_runAndLog 11 .int (gR 3 1 6) [.ref (ad 0), .int x1, .long x2, .int x4, .int x5, .int x6] I L (pq_X3_runAndLog pp nn ne x1 x2 x4 x5 x6 I L) (px_X3_runAndLog pp nn ne x1 x2 x4 x5 x6 I L) := by
  refine gTi_of hJ (by decide +kernel) kc_X3_runAndLog (Nat.le_of_ble_eq_true rfl) (fun p e s m below meth c A ls C hr ht hP hS hl => ?_)
  have hx := C.hx
  have hb := C.hb
  have hl : lv_has ls 11 [(0, .ref (ad 0)), (1, .int x1), (2, .long x2), (4, .int x4), (5, .int x5), (6, .int x6)] := hl
  refine lv_aload_n hx hb dX3_runAndLog_0 rfl (lv_at hl 0 rfl) ?_
  refine g_get (v := .ref (ad 3)) (T := TX3) C hP 0 2 (by decide) rfl rfl inwX3 (by decide) kf_X3_18 rfl dX3_runAndLog_1 ?_
  refine lv_iload_n hx hb dX3_runAndLog_4 rfl (lv_at hl 1 rfl) ?_
  refine g_aldP C hP pp hx1 (by omega) dX3_runAndLog_5 ?_
  refine lv_astore (lv' := [(7, .ref (ad (95 + 4 * pp))), (0, .ref (ad 0)), (1, .int x1), (2, .long x2), (4, .int x4), (5, .int x5), (6, .int x6)]) hx hb dX3_runAndLog_6 hl (by decide) rfl (fun ls hl => ?_)
  refine lv_aload hx hb dX3_runAndLog_8 (lv_at hl 0 rfl) ?_
  refine lv_lload_n hx hb dX3_runAndLog_10 rfl (lv_at hl 3 rfl) ?_
  refine lv_aload_n hx hb dX3_runAndLog_11 rfl (lv_at hl 1 rfl) ?_
  refine g_get (v := .ref (ad 7)) (T := TX3) C hP 0 8 (by decide) rfl rfl inwX3 (by decide) kf_X3_46 rfl dX3_runAndLog_12 ?_
  refine gM_callVNv (As := [.long x2, .ref (ad 7)]) (rest := []) C hP hS hl.1 (ct_X1_computePostings l D cy ad hJ pp nn x2 I L hp hn hn1 hn4) fa_X1_computePostings kn_m225 ki_X1_computePostings kse_X1_computePostings (by omega) (T := TX1) (kd_P hp _ _) rfl rfl (by decide) (Nat.le_of_ble_eq_true rfl) (by decide) dX3_runAndLog_15 rfl (fun I15 L15 H locs hq hP hS => ?_)
  obtain ⟨rfl, rfl⟩ := hq
  refine lv_iload hx hb dX3_runAndLog_18 (lv_at hl 6 rfl) ?_
  refine lv_iconst (v := (-1)) hx hb dX3_runAndLog_20 (by decide) ?_
  refine lv_icmp_eq (tgt := 28) hx hb dX3_runAndLog_21 (by decide) (fun c21 => ?_) (fun c21 => ?_)
  · rw [gPW_p (x := x6) c21] at hP
    refine lv_aload_n hx hb dX3_runAndLog_28 rfl (lv_at hl 1 rfl) ?_
    refine lv_aload hx hb dX3_runAndLog_29 (lv_at hl 0 rfl) ?_
    refine gT_callVv (As := [.ref (ad (95 + 4 * pp))]) (rest := []) C hP hS hl.1 (ct_X3_requireNoLineFails l D cy ad hJ hlf pp nn I (gPW L x2 (I (97 + 4 * pp)) nn x6) hp hn hn4 hac) fa_X3_requireNoLineFails kl_X3_232 ki_X3_requireNoLineFails kse_X3_requireNoLineFails (by decide) (T := TX3) rfl rfl rfl (by decide) (Nat.le_of_ble_eq_true rfl) (by decide) (ht) (by decide) (fun E9 I9 L9 hx9 => hx9) dX3_runAndLog_31 rfl (fun I31 L31 H locs hq hP hS => ?_)
    obtain ⟨h31_0, rfl, rfl⟩ := hq
    refine lv_aload_n hx hb dX3_runAndLog_34 rfl (lv_at hl 1 rfl) ?_
    refine g_get (v := .int (nI ne)) (T := TX3) C hP 0 6 (by decide) rfl rfl inwX3 (by decide) kf_X3_38 (congrArg (fun z => some (Value.int z)) hne) dX3_runAndLog_35 ?_
    refine lv_istore (lv' := [(8, .int (nI ne)), (7, .ref (ad (95 + 4 * pp))), (0, .ref (ad 0)), (1, .int x1), (2, .long x2), (4, .int x4), (5, .int x5), (6, .int x6)]) hx hb dX3_runAndLog_38 hl (by decide) rfl (fun ls hl => ?_)
    refine lv_aload_n hx hb dX3_runAndLog_40 rfl (lv_at hl 2 rfl) ?_
    refine g_get (v := .ref (ad 6)) (T := TX3) C hP 0 7 (by decide) rfl rfl inwX3 (by decide) kf_X3_43 rfl dX3_runAndLog_41 ?_
    refine lv_iload hx hb dX3_runAndLog_44 (lv_at hl 0 rfl) ?_
    refine g_aldT C hP ne rfl (by omega) dX3_runAndLog_46 ?_
    refine lv_iconst (v := 0) hx hb dX3_runAndLog_47 (by decide) ?_
    refine lv_aload_n hx hb dX3_runAndLog_48 rfl (lv_at hl 2 rfl) ?_
    refine g_get (v := .ref (ad 6)) (T := TX3) C hP 0 7 (by decide) rfl rfl inwX3 (by decide) kf_X3_43 rfl dX3_runAndLog_49 ?_
    refine lv_iload hx hb dX3_runAndLog_52 (lv_at hl 0 rfl) ?_
    refine lv_iconst (v := 1) hx hb dX3_runAndLog_54 (by decide) ?_
    refine lv_iadd hx hb dX3_runAndLog_55 ?_
    refine g_aldT C hP (ne + 1) (nI_addE rfl (show (1 : Int32) = nI 1 from rfl)) (by omega) dX3_runAndLog_56 ?_
    refine lv_iconst (v := 0) hx hb dX3_runAndLog_57 (by decide) ?_
    refine lv_bipush (v := 8) hx hb dX3_runAndLog_58 (by decide) ?_
    refine g_copyT C hP hS hl.1 ne (by omega) kl_X3_236 (by decide) (Nat.le_of_ble_eq_true rfl) dX3_runAndLog_60 (fun H locs hP hS => ?_)
    refine lv_iconst (v := 0) hx hb dX3_runAndLog_63 (by decide) ?_
    refine lv_istore (lv' := [(9, .int 0), (8, .int (nI ne)), (7, .ref (ad (95 + 4 * pp))), (0, .ref (ad 0)), (1, .int x1), (2, .long x2), (4, .int x4), (5, .int x5), (6, .int x6)]) hx hb dX3_runAndLog_64 hl (by decide) rfl (fun ls hl => ?_)
    have loop66 : ∀ (N : Nat) (i : Nat) (hi : i ≤ nn) (hfu : nn < i + N) (H : Heap) (locs : List Loc) (ls : Array Slot), gP D cy ad I (gRL (gcp (gPW L x2 (I (97 + 4 * pp)) nn x6) ne) (I (96 + 4 * pp)) (54 + (ne + 1)) i) H → va_S A s.heap H locs → lv_has ls 11 [(0, .ref (ad 0)), (1, .int x1), (2, .long x2), (4, .int x4), (5, .int x5), (6, .int x6), (7, .ref (ad (95 + 4 * pp))), (8, .int (nI ne)), (9, .int (nI i))] → W p l e (gR 3 1 6) s m ([.ref (ad 0), .int x1, .long x2, .int x4, .int x5, .int x6] : List Value).toArray below meth c H locs 1 6 (vx_MQ below (gQi D cy ad A (pq_X3_runAndLog pp nn ne x1 x2 x4 x5 x6 I L)) (gXC D cy ad A (px_X3_runAndLog pp nn ne x1 x2 x4 x5 x6 I L)) ([.ref (ad 0), .int x1, .long x2, .int x4, .int x5, .int x6] : List Value).toArray s 1 6 A) (F0 m 66 ls []) := by
      intro N
      induction N with
      | zero =>
        intro i hi hfu
        exact absurd hfu (by omega)
      | succ N ih =>
        intro i hi hfu H locs ls hP hS hl
        refine lv_iload hx hb dX3_runAndLog_66 (lv_at hl 8 rfl) ?_
        refine lv_aload hx hb dX3_runAndLog_68 (lv_at hl 6 rfl) ?_
        refine g_getN (v := .int (nI nn)) (T := TX1) C hP (95 + 4 * pp) 2 (by omega) (kd_P hp _ _) rfl inwX1 (by decide) kn_f88 (congrArg (fun z => some (Value.int z)) hn) dX3_runAndLog_70 ?_
        refine lv_icmp_ge (tgt := 131) hx hb dX3_runAndLog_73 (by decide) (fun c73 => ?_) (fun c73 => ?_)
        · have n73 : nn ≤ i := (nI_leeE rfl rfl (by omega) (by omega)).mp c73
          refine lv_aload_n hx hb dX3_runAndLog_131 rfl (lv_at hl 0 rfl) ?_
          refine g_get (v := .ref (ad 5)) (T := TX3) C hP 0 5 (by decide) rfl rfl inwX3 (by decide) kf_X3_34 rfl dX3_runAndLog_132 ?_
          refine lv_iload hx hb dX3_runAndLog_135 (lv_at hl 7 rfl) ?_
          refine g_aldE C hP ne rfl (by omega) dX3_runAndLog_137 ?_
          refine lv_iload_n hx hb dX3_runAndLog_138 rfl (lv_at hl 1 rfl) ?_
          refine lv_lload_n hx hb dX3_runAndLog_139 rfl (lv_at hl 2 rfl) ?_
          refine lv_iload hx hb dX3_runAndLog_140 (lv_at hl 3 rfl) ?_
          refine lv_iload hx hb dX3_runAndLog_142 (lv_at hl 4 rfl) ?_
          refine lv_iload hx hb dX3_runAndLog_144 (lv_at hl 5 rfl) ?_
          refine gM_callVNv (As := [.int x1, .long x2, .int x4, .int x5, .int x6]) (rest := []) C hP hS hl.1 (ct_X0_fill l D cy ad hJ ne x1 x2 x4 x5 x6 I (gRL (gcp (gPW L x2 (I (97 + 4 * pp)) nn x6) ne) (I (96 + 4 * pp)) (54 + (ne + 1)) i) (by omega)) fa_X0_fill kn_m246 ki_X0_fill kse_X0_fill (by omega) (T := TX0) (kd_E (by omega) _ _) rfl rfl (by decide) (Nat.le_of_ble_eq_true rfl) (by decide) dX3_runAndLog_146 rfl (fun I146 L146 H locs hq hP hS => ?_)
          obtain ⟨rfl, rfl⟩ := hq
          refine lv_aload_n hx hb dX3_runAndLog_149 rfl (lv_at hl 0 rfl) ?_
          refine lv_dup hx hb dX3_runAndLog_150 rfl ?_
          refine g_get (v := .int (nI ne)) (T := TX3) C hP 0 6 (by decide) rfl rfl inwX3 (by decide) kf_X3_38 (congrArg (fun z => some (Value.int z)) ((congrFun (sI_row (by omega)) _).trans ((congrFun (sI_row (by omega)) _).trans ((congrFun (sI_row (by omega)) _).trans ((congrFun (sI_row (by omega)) _).trans hne))))) dX3_runAndLog_151 ?_
          refine lv_iconst (v := 1) hx hb dX3_runAndLog_154 (by decide) ?_
          refine lv_iadd hx hb dX3_runAndLog_155 ?_
          refine g_putI (T := TX3) C hP hS 0 6 (by decide) rfl rfl inwX3 tyX3 tyX3_ok nmX3 (by decide) kf_X3_38 rfl rfl (by decide : 6 < 9) (by simp only [sI, va_up_self]; rfl) dX3_runAndLog_156 (fun H locs hP hS => ?_)
          refine lv_iload hx hb dX3_runAndLog_159 (lv_at hl 7 rfl) ?_
          exact gT_iret C hr hP hS (by decide) (by decide) dX3_runAndLog_161 (⟨h31_0, rfl, rfl, by rw [show nn = i by omega]⟩)  -- end 0: c21 : x6 = (-1) ; h31_0 : (∀ k, k < nn → ¬ gfl (I (96 + 4 * pp)) ((gPW L x2 (I (97 + 4 * pp)) nn x6) 1) ((gPW L x2 (I (97 + 4 * pp)) nn x6) 2) ((gPW L x2 (I (97 + 4 * pp)) nn x6) 7) k) ; n73 : nn ≤ i
        · have n73 : ¬ nn ≤ i := (not_congr (nI_leeE rfl rfl (by omega) (by omega))).mp c73
          refine lv_aload hx hb dX3_runAndLog_76 (lv_at hl 6 rfl) ?_
          refine g_getN (v := .ref (ad (96 + 4 * pp))) (T := TX1) C hP (95 + 4 * pp) 0 (by omega) (kd_P hp _ _) rfl inwX1 (by decide) kn_f242 rfl dX3_runAndLog_78 ?_
          refine lv_iload hx hb dX3_runAndLog_81 (lv_at hl 8 rfl) ?_
          refine g_iald (v := I (96 + 4 * pp) i) C hP (96 + 4 * pp) 4 (by omega) (kd_PA hp) i rfl rfl (by omega) (by decide) dX3_runAndLog_83 ?_
          obtain ⟨e84, l84⟩ := vp_ix (hac i (by omega))
          refine lv_istore (lv' := [(10, .int (I (96 + 4 * pp) i)), (0, .ref (ad 0)), (1, .int x1), (2, .long x2), (4, .int x4), (5, .int x5), (6, .int x6), (7, .ref (ad (95 + 4 * pp))), (8, .int (nI ne)), (9, .int (nI i))]) hx hb dX3_runAndLog_84 hl (by decide) rfl (fun ls hl => ?_)
          refine lv_aload_n hx hb dX3_runAndLog_86 rfl (lv_at hl 1 rfl) ?_
          refine g_get (v := .ref (ad 1)) (T := TX3) C hP 0 0 (by decide) rfl rfl inwX3 (by decide) kf_X3_9 rfl dX3_runAndLog_87 ?_
          refine lv_iload hx hb dX3_runAndLog_90 (lv_at hl 0 rfl) ?_
          refine lv_dup2_11 hx hb dX3_runAndLog_92 rfl rfl ?_
          refine g_lald (v := (gRL (gcp (gPW L x2 (I (97 + 4 * pp)) nn x6) ne) (I (96 + 4 * pp)) (54 + (ne + 1)) i) 1 ((I (96 + 4 * pp) i).toNatClampNeg)) C hP 1 8 (by decide) (fun _ _ => rfl) ((I (96 + 4 * pp) i).toNatClampNeg) e84 rfl (by omega) (by decide) dX3_runAndLog_93 ?_
          refine lv_aload_n hx hb dX3_runAndLog_94 rfl (lv_at hl 1 rfl) ?_
          refine g_get (v := .ref (ad 7)) (T := TX3) C hP 0 8 (by decide) rfl rfl inwX3 (by decide) kf_X3_46 rfl dX3_runAndLog_95 ?_
          refine lv_iload hx hb dX3_runAndLog_98 (lv_at hl 9 rfl) ?_
          refine g_lald (v := (gRL (gcp (gPW L x2 (I (97 + 4 * pp)) nn x6) ne) (I (96 + 4 * pp)) (54 + (ne + 1)) i) 7 i) C hP 7 4 (by decide) (fun _ _ => rfl) i rfl rfl (by omega) (by decide) dX3_runAndLog_100 ?_
          refine lv_ladd hx hb dX3_runAndLog_101 ?_
          refine g_last C hP hS 1 8 (by decide) (fun _ _ => rfl) ((I (96 + 4 * pp) i).toNatClampNeg) e84 (by omega) (by decide) dX3_runAndLog_102 (fun H locs hP hS => ?_)
          refine lv_aload_n hx hb dX3_runAndLog_103 rfl (lv_at hl 1 rfl) ?_
          refine g_get (v := .ref (ad 6)) (T := TX3) C hP 0 7 (by decide) rfl rfl inwX3 (by decide) kf_X3_43 rfl dX3_runAndLog_104 ?_
          refine lv_iload hx hb dX3_runAndLog_107 (lv_at hl 8 rfl) ?_
          refine lv_iconst (v := 1) hx hb dX3_runAndLog_109 (by decide) ?_
          refine lv_iadd hx hb dX3_runAndLog_110 ?_
          refine g_aldT C hP (ne + 1) (nI_addE rfl (show (1 : Int32) = nI 1 from rfl)) (by omega) dX3_runAndLog_111 ?_
          refine lv_iload hx hb dX3_runAndLog_112 (lv_at hl 0 rfl) ?_
          refine lv_dup2_11 hx hb dX3_runAndLog_114 rfl rfl ?_
          refine g_lald (v := (gRL (gcp (gPW L x2 (I (97 + 4 * pp)) nn x6) ne) (I (96 + 4 * pp)) (54 + (ne + 1)) i) (54 + (ne + 1)) ((I (96 + 4 * pp) i).toNatClampNeg)) C hP (54 + (ne + 1)) 8 (by omega) (kd_T (by omega)) ((I (96 + 4 * pp) i).toNatClampNeg) e84 (congrFun (sL_row (by omega)) _) (by omega) (by decide) dX3_runAndLog_115 ?_
          refine lv_aload_n hx hb dX3_runAndLog_116 rfl (lv_at hl 1 rfl) ?_
          refine g_get (v := .ref (ad 7)) (T := TX3) C hP 0 8 (by decide) rfl rfl inwX3 (by decide) kf_X3_46 rfl dX3_runAndLog_117 ?_
          refine lv_iload hx hb dX3_runAndLog_120 (lv_at hl 9 rfl) ?_
          refine g_lald (v := (gRL (gcp (gPW L x2 (I (97 + 4 * pp)) nn x6) ne) (I (96 + 4 * pp)) (54 + (ne + 1)) i) 7 i) C hP 7 4 (by decide) (fun _ _ => rfl) i rfl (congrFun (sL_row (by decide)) _) (by omega) (by decide) dX3_runAndLog_122 ?_
          refine lv_ladd hx hb dX3_runAndLog_123 ?_
          refine g_last C hP hS (54 + (ne + 1)) 8 (by omega) (kd_T (by omega)) ((I (96 + 4 * pp) i).toNatClampNeg) e84 (by omega) (by decide) dX3_runAndLog_124 (fun H locs hP hS => ?_)
          refine lv_iinc (v := nI (i + 1)) (lv' := [(9, .int (nI (i + 1))), (10, .int (I (96 + 4 * pp) i)), (0, .ref (ad 0)), (1, .int x1), (2, .long x2), (4, .int x4), (5, .int x5), (6, .int x6), (7, .ref (ad (95 + 4 * pp))), (8, .int (nI ne))]) hx hb dX3_runAndLog_125 hl (k := 9) rfl (nI_1 _) (by decide) rfl (fun ls hl => ?_)
          refine lv_goto (tgt := 66) hx hb dX3_runAndLog_128 (by decide) ?_
          rw [gRL_s _ _ _ _ _ (by omega) (by omega) rfl] at hP
          exact ih (i + 1) (by omega) (by omega) _ _ _ hP hS (lv_sub hl [2, 3, 4, 5, 6, 7, 8, 9, 0] rfl)
    exact loop66 (nn + 1) 0 (Nat.zero_le _) (by omega) _ _ _ (by rw [gRL_0]; exact hP) hS (lv_sub hl [3, 4, 5, 6, 7, 8, 2, 1, 0] rfl)
  · refine lv_aload_n hx hb dX3_runAndLog_24 rfl (lv_at hl 1 rfl) ?_
    refine gM_callVv (As := []) (rest := []) C hP hS hl.1 (ct_X3_negatePostings l D cy ad hJ I (va_up L 7 (gpw x2 (I (97 + 4 * pp)) nn (L 7)))) fa_X3_negatePostings kl_X3_229 ki_X3_negatePostings kse_X3_negatePostings (by decide) (T := TX3) rfl rfl rfl (by decide) (Nat.le_of_ble_eq_true rfl) (by decide) dX3_runAndLog_25 rfl (fun I25 L25 H locs hq hP hS => ?_)
    obtain ⟨rfl, rfl⟩ := hq
    rw [gPW_n (x := x6) c21] at hP
    refine lv_aload_n hx hb dX3_runAndLog_28 rfl (lv_at hl 1 rfl) ?_
    refine lv_aload hx hb dX3_runAndLog_29 (lv_at hl 0 rfl) ?_
    refine gT_callVv (As := [.ref (ad (95 + 4 * pp))]) (rest := []) C hP hS hl.1 (ct_X3_requireNoLineFails l D cy ad hJ hlf pp nn I (gPW L x2 (I (97 + 4 * pp)) nn x6) hp hn hn4 hac) fa_X3_requireNoLineFails kl_X3_232 ki_X3_requireNoLineFails kse_X3_requireNoLineFails (by decide) (T := TX3) rfl rfl rfl (by decide) (Nat.le_of_ble_eq_true rfl) (by decide) (ht) (by decide) (fun E9 I9 L9 hx9 => hx9) dX3_runAndLog_31 rfl (fun I31 L31 H locs hq hP hS => ?_)
    obtain ⟨h31_0, rfl, rfl⟩ := hq
    refine lv_aload_n hx hb dX3_runAndLog_34 rfl (lv_at hl 1 rfl) ?_
    refine g_get (v := .int (nI ne)) (T := TX3) C hP 0 6 (by decide) rfl rfl inwX3 (by decide) kf_X3_38 (congrArg (fun z => some (Value.int z)) hne) dX3_runAndLog_35 ?_
    refine lv_istore (lv' := [(8, .int (nI ne)), (7, .ref (ad (95 + 4 * pp))), (0, .ref (ad 0)), (1, .int x1), (2, .long x2), (4, .int x4), (5, .int x5), (6, .int x6)]) hx hb dX3_runAndLog_38 hl (by decide) rfl (fun ls hl => ?_)
    refine lv_aload_n hx hb dX3_runAndLog_40 rfl (lv_at hl 2 rfl) ?_
    refine g_get (v := .ref (ad 6)) (T := TX3) C hP 0 7 (by decide) rfl rfl inwX3 (by decide) kf_X3_43 rfl dX3_runAndLog_41 ?_
    refine lv_iload hx hb dX3_runAndLog_44 (lv_at hl 0 rfl) ?_
    refine g_aldT C hP ne rfl (by omega) dX3_runAndLog_46 ?_
    refine lv_iconst (v := 0) hx hb dX3_runAndLog_47 (by decide) ?_
    refine lv_aload_n hx hb dX3_runAndLog_48 rfl (lv_at hl 2 rfl) ?_
    refine g_get (v := .ref (ad 6)) (T := TX3) C hP 0 7 (by decide) rfl rfl inwX3 (by decide) kf_X3_43 rfl dX3_runAndLog_49 ?_
    refine lv_iload hx hb dX3_runAndLog_52 (lv_at hl 0 rfl) ?_
    refine lv_iconst (v := 1) hx hb dX3_runAndLog_54 (by decide) ?_
    refine lv_iadd hx hb dX3_runAndLog_55 ?_
    refine g_aldT C hP (ne + 1) (nI_addE rfl (show (1 : Int32) = nI 1 from rfl)) (by omega) dX3_runAndLog_56 ?_
    refine lv_iconst (v := 0) hx hb dX3_runAndLog_57 (by decide) ?_
    refine lv_bipush (v := 8) hx hb dX3_runAndLog_58 (by decide) ?_
    refine g_copyT C hP hS hl.1 ne (by omega) kl_X3_236 (by decide) (Nat.le_of_ble_eq_true rfl) dX3_runAndLog_60 (fun H locs hP hS => ?_)
    refine lv_iconst (v := 0) hx hb dX3_runAndLog_63 (by decide) ?_
    refine lv_istore (lv' := [(9, .int 0), (8, .int (nI ne)), (7, .ref (ad (95 + 4 * pp))), (0, .ref (ad 0)), (1, .int x1), (2, .long x2), (4, .int x4), (5, .int x5), (6, .int x6)]) hx hb dX3_runAndLog_64 hl (by decide) rfl (fun ls hl => ?_)
    have loop66 : ∀ (N : Nat) (i : Nat) (hi : i ≤ nn) (hfu : nn < i + N) (H : Heap) (locs : List Loc) (ls : Array Slot), gP D cy ad I (gRL (gcp (gPW L x2 (I (97 + 4 * pp)) nn x6) ne) (I (96 + 4 * pp)) (54 + (ne + 1)) i) H → va_S A s.heap H locs → lv_has ls 11 [(0, .ref (ad 0)), (1, .int x1), (2, .long x2), (4, .int x4), (5, .int x5), (6, .int x6), (7, .ref (ad (95 + 4 * pp))), (8, .int (nI ne)), (9, .int (nI i))] → W p l e (gR 3 1 6) s m ([.ref (ad 0), .int x1, .long x2, .int x4, .int x5, .int x6] : List Value).toArray below meth c H locs 1 6 (vx_MQ below (gQi D cy ad A (pq_X3_runAndLog pp nn ne x1 x2 x4 x5 x6 I L)) (gXC D cy ad A (px_X3_runAndLog pp nn ne x1 x2 x4 x5 x6 I L)) ([.ref (ad 0), .int x1, .long x2, .int x4, .int x5, .int x6] : List Value).toArray s 1 6 A) (F0 m 66 ls []) := by
      intro N
      induction N with
      | zero =>
        intro i hi hfu
        exact absurd hfu (by omega)
      | succ N ih =>
        intro i hi hfu H locs ls hP hS hl
        refine lv_iload hx hb dX3_runAndLog_66 (lv_at hl 8 rfl) ?_
        refine lv_aload hx hb dX3_runAndLog_68 (lv_at hl 6 rfl) ?_
        refine g_getN (v := .int (nI nn)) (T := TX1) C hP (95 + 4 * pp) 2 (by omega) (kd_P hp _ _) rfl inwX1 (by decide) kn_f88 (congrArg (fun z => some (Value.int z)) hn) dX3_runAndLog_70 ?_
        refine lv_icmp_ge (tgt := 131) hx hb dX3_runAndLog_73 (by decide) (fun c73 => ?_) (fun c73 => ?_)
        · have n73 : nn ≤ i := (nI_leeE rfl rfl (by omega) (by omega)).mp c73
          refine lv_aload_n hx hb dX3_runAndLog_131 rfl (lv_at hl 0 rfl) ?_
          refine g_get (v := .ref (ad 5)) (T := TX3) C hP 0 5 (by decide) rfl rfl inwX3 (by decide) kf_X3_34 rfl dX3_runAndLog_132 ?_
          refine lv_iload hx hb dX3_runAndLog_135 (lv_at hl 7 rfl) ?_
          refine g_aldE C hP ne rfl (by omega) dX3_runAndLog_137 ?_
          refine lv_iload_n hx hb dX3_runAndLog_138 rfl (lv_at hl 1 rfl) ?_
          refine lv_lload_n hx hb dX3_runAndLog_139 rfl (lv_at hl 2 rfl) ?_
          refine lv_iload hx hb dX3_runAndLog_140 (lv_at hl 3 rfl) ?_
          refine lv_iload hx hb dX3_runAndLog_142 (lv_at hl 4 rfl) ?_
          refine lv_iload hx hb dX3_runAndLog_144 (lv_at hl 5 rfl) ?_
          refine gM_callVNv (As := [.int x1, .long x2, .int x4, .int x5, .int x6]) (rest := []) C hP hS hl.1 (ct_X0_fill l D cy ad hJ ne x1 x2 x4 x5 x6 I (gRL (gcp (gPW L x2 (I (97 + 4 * pp)) nn x6) ne) (I (96 + 4 * pp)) (54 + (ne + 1)) i) (by omega)) fa_X0_fill kn_m246 ki_X0_fill kse_X0_fill (by omega) (T := TX0) (kd_E (by omega) _ _) rfl rfl (by decide) (Nat.le_of_ble_eq_true rfl) (by decide) dX3_runAndLog_146 rfl (fun I146 L146 H locs hq hP hS => ?_)
          obtain ⟨rfl, rfl⟩ := hq
          refine lv_aload_n hx hb dX3_runAndLog_149 rfl (lv_at hl 0 rfl) ?_
          refine lv_dup hx hb dX3_runAndLog_150 rfl ?_
          refine g_get (v := .int (nI ne)) (T := TX3) C hP 0 6 (by decide) rfl rfl inwX3 (by decide) kf_X3_38 (congrArg (fun z => some (Value.int z)) ((congrFun (sI_row (by omega)) _).trans ((congrFun (sI_row (by omega)) _).trans ((congrFun (sI_row (by omega)) _).trans ((congrFun (sI_row (by omega)) _).trans hne))))) dX3_runAndLog_151 ?_
          refine lv_iconst (v := 1) hx hb dX3_runAndLog_154 (by decide) ?_
          refine lv_iadd hx hb dX3_runAndLog_155 ?_
          refine g_putI (T := TX3) C hP hS 0 6 (by decide) rfl rfl inwX3 tyX3 tyX3_ok nmX3 (by decide) kf_X3_38 rfl rfl (by decide : 6 < 9) (by simp only [sI, va_up_self]; rfl) dX3_runAndLog_156 (fun H locs hP hS => ?_)
          refine lv_iload hx hb dX3_runAndLog_159 (lv_at hl 7 rfl) ?_
          exact gT_iret C hr hP hS (by decide) (by decide) dX3_runAndLog_161 (⟨h31_0, rfl, rfl, by rw [show nn = i by omega]⟩)  -- end 1: c21 : ¬ x6 = (-1) ; h31_0 : (∀ k, k < nn → ¬ gfl (I (96 + 4 * pp)) ((gPW L x2 (I (97 + 4 * pp)) nn x6) 1) ((gPW L x2 (I (97 + 4 * pp)) nn x6) 2) ((gPW L x2 (I (97 + 4 * pp)) nn x6) 7) k) ; n73 : nn ≤ i
        · have n73 : ¬ nn ≤ i := (not_congr (nI_leeE rfl rfl (by omega) (by omega))).mp c73
          refine lv_aload hx hb dX3_runAndLog_76 (lv_at hl 6 rfl) ?_
          refine g_getN (v := .ref (ad (96 + 4 * pp))) (T := TX1) C hP (95 + 4 * pp) 0 (by omega) (kd_P hp _ _) rfl inwX1 (by decide) kn_f242 rfl dX3_runAndLog_78 ?_
          refine lv_iload hx hb dX3_runAndLog_81 (lv_at hl 8 rfl) ?_
          refine g_iald (v := I (96 + 4 * pp) i) C hP (96 + 4 * pp) 4 (by omega) (kd_PA hp) i rfl rfl (by omega) (by decide) dX3_runAndLog_83 ?_
          obtain ⟨e84, l84⟩ := vp_ix (hac i (by omega))
          refine lv_istore (lv' := [(10, .int (I (96 + 4 * pp) i)), (0, .ref (ad 0)), (1, .int x1), (2, .long x2), (4, .int x4), (5, .int x5), (6, .int x6), (7, .ref (ad (95 + 4 * pp))), (8, .int (nI ne)), (9, .int (nI i))]) hx hb dX3_runAndLog_84 hl (by decide) rfl (fun ls hl => ?_)
          refine lv_aload_n hx hb dX3_runAndLog_86 rfl (lv_at hl 1 rfl) ?_
          refine g_get (v := .ref (ad 1)) (T := TX3) C hP 0 0 (by decide) rfl rfl inwX3 (by decide) kf_X3_9 rfl dX3_runAndLog_87 ?_
          refine lv_iload hx hb dX3_runAndLog_90 (lv_at hl 0 rfl) ?_
          refine lv_dup2_11 hx hb dX3_runAndLog_92 rfl rfl ?_
          refine g_lald (v := (gRL (gcp (gPW L x2 (I (97 + 4 * pp)) nn x6) ne) (I (96 + 4 * pp)) (54 + (ne + 1)) i) 1 ((I (96 + 4 * pp) i).toNatClampNeg)) C hP 1 8 (by decide) (fun _ _ => rfl) ((I (96 + 4 * pp) i).toNatClampNeg) e84 rfl (by omega) (by decide) dX3_runAndLog_93 ?_
          refine lv_aload_n hx hb dX3_runAndLog_94 rfl (lv_at hl 1 rfl) ?_
          refine g_get (v := .ref (ad 7)) (T := TX3) C hP 0 8 (by decide) rfl rfl inwX3 (by decide) kf_X3_46 rfl dX3_runAndLog_95 ?_
          refine lv_iload hx hb dX3_runAndLog_98 (lv_at hl 9 rfl) ?_
          refine g_lald (v := (gRL (gcp (gPW L x2 (I (97 + 4 * pp)) nn x6) ne) (I (96 + 4 * pp)) (54 + (ne + 1)) i) 7 i) C hP 7 4 (by decide) (fun _ _ => rfl) i rfl rfl (by omega) (by decide) dX3_runAndLog_100 ?_
          refine lv_ladd hx hb dX3_runAndLog_101 ?_
          refine g_last C hP hS 1 8 (by decide) (fun _ _ => rfl) ((I (96 + 4 * pp) i).toNatClampNeg) e84 (by omega) (by decide) dX3_runAndLog_102 (fun H locs hP hS => ?_)
          refine lv_aload_n hx hb dX3_runAndLog_103 rfl (lv_at hl 1 rfl) ?_
          refine g_get (v := .ref (ad 6)) (T := TX3) C hP 0 7 (by decide) rfl rfl inwX3 (by decide) kf_X3_43 rfl dX3_runAndLog_104 ?_
          refine lv_iload hx hb dX3_runAndLog_107 (lv_at hl 8 rfl) ?_
          refine lv_iconst (v := 1) hx hb dX3_runAndLog_109 (by decide) ?_
          refine lv_iadd hx hb dX3_runAndLog_110 ?_
          refine g_aldT C hP (ne + 1) (nI_addE rfl (show (1 : Int32) = nI 1 from rfl)) (by omega) dX3_runAndLog_111 ?_
          refine lv_iload hx hb dX3_runAndLog_112 (lv_at hl 0 rfl) ?_
          refine lv_dup2_11 hx hb dX3_runAndLog_114 rfl rfl ?_
          refine g_lald (v := (gRL (gcp (gPW L x2 (I (97 + 4 * pp)) nn x6) ne) (I (96 + 4 * pp)) (54 + (ne + 1)) i) (54 + (ne + 1)) ((I (96 + 4 * pp) i).toNatClampNeg)) C hP (54 + (ne + 1)) 8 (by omega) (kd_T (by omega)) ((I (96 + 4 * pp) i).toNatClampNeg) e84 (congrFun (sL_row (by omega)) _) (by omega) (by decide) dX3_runAndLog_115 ?_
          refine lv_aload_n hx hb dX3_runAndLog_116 rfl (lv_at hl 1 rfl) ?_
          refine g_get (v := .ref (ad 7)) (T := TX3) C hP 0 8 (by decide) rfl rfl inwX3 (by decide) kf_X3_46 rfl dX3_runAndLog_117 ?_
          refine lv_iload hx hb dX3_runAndLog_120 (lv_at hl 9 rfl) ?_
          refine g_lald (v := (gRL (gcp (gPW L x2 (I (97 + 4 * pp)) nn x6) ne) (I (96 + 4 * pp)) (54 + (ne + 1)) i) 7 i) C hP 7 4 (by decide) (fun _ _ => rfl) i rfl (congrFun (sL_row (by decide)) _) (by omega) (by decide) dX3_runAndLog_122 ?_
          refine lv_ladd hx hb dX3_runAndLog_123 ?_
          refine g_last C hP hS (54 + (ne + 1)) 8 (by omega) (kd_T (by omega)) ((I (96 + 4 * pp) i).toNatClampNeg) e84 (by omega) (by decide) dX3_runAndLog_124 (fun H locs hP hS => ?_)
          refine lv_iinc (v := nI (i + 1)) (lv' := [(9, .int (nI (i + 1))), (10, .int (I (96 + 4 * pp) i)), (0, .ref (ad 0)), (1, .int x1), (2, .long x2), (4, .int x4), (5, .int x5), (6, .int x6), (7, .ref (ad (95 + 4 * pp))), (8, .int (nI ne))]) hx hb dX3_runAndLog_125 hl (k := 9) rfl (nI_1 _) (by decide) rfl (fun ls hl => ?_)
          refine lv_goto (tgt := 66) hx hb dX3_runAndLog_128 (by decide) ?_
          rw [gRL_s _ _ _ _ _ (by omega) (by omega) rfl] at hP
          exact ih (i + 1) (by omega) (by omega) _ _ _ hP hS (lv_sub hl [2, 3, 4, 5, 6, 7, 8, 9, 0] rfl)
    exact loop66 (nn + 1) 0 (Nat.zero_le _) (by omega) _ _ _ (by rw [gRL_0]; exact hP) hS (lv_sub hl [3, 4, 5, 6, 7, 8, 2, 1, 0] rfl)
def pq_X3_draw (np : Nat) (lc : Nat → Nat) (x1 : Int32) (x2 : Int32) (I : MI) (L : ML) : Int32 → MI → ML → Prop := fun r I' L' => (vp_in x1 8 ∧ gSh x2 ∧ np < 10 ∧ nI np = r ∧ (sI (sI (sI (sI I (96 + 4 * np) 0 x1) (97 + 4 * np) 0 x2) (95 + 4 * np) 2 ((nI 0) + 1)) 0 3 ((nI np) + 1)) = I' ∧ L = L')
def px_X3_draw (np : Nat) (lc : Nat → Nat) (x1 : Int32) (x2 : Int32) (I : MI) (L : ML) : String → MI → ML → Prop := fun E I' L' => (¬ vp_in x1 8 ∧ xIO = E ∧ I = I' ∧ L = L') ∨ (vp_in x1 8 ∧ ¬ gSh x2 ∧ xIA = E ∧ I = I' ∧ L = L') ∨ (vp_in x1 8 ∧ gSh x2 ∧ ¬ np < 10 ∧ xIS = E ∧ I = I' ∧ L = L')
set_option maxRecDepth 100000 in
set_option maxHeartbeats 4000000 in
theorem ct_X3_draw (l : Launch) (D : va_G) (cy : Nat → ClassId) (ad : Nat → Nat) (hJ : gJ ad) (hlf : l.stackTraces = false) (np : Nat) (lc : Nat → Nat) (x1 : Int32) (x2 : Int32) (I : MI) (L : ML) (hnp : I 0 3 = nI np) (hnp10 : np ≤ 10) (hlc : ∀ pp, pp < 10 → I (95 + 4 * pp) 2 = nI (lc pp)) (hlc4 : ∀ pp, pp < 10 → lc pp ≤ 4) (hlc0 : ∀ p, np ≤ p → p < 10 → lc p = 0) : gTi l D cy ad yX3_draw cX3_draw 4 .int (gR 1 3 18) [.ref (ad 0), .int x1, .int x2] I L (pq_X3_draw np lc x1 x2 I L) (px_X3_draw np lc x1 x2 I L) := by
  refine gTi_of hJ (by decide +kernel) kc_X3_draw (Nat.le_of_ble_eq_true rfl) (fun p e s m below meth c A ls C hr ht hP hS hl => ?_)
  have hx := C.hx
  have hb := C.hb
  have hl : lv_has ls 4 [(0, .ref (ad 0)), (1, .int x1), (2, .int x2)] := hl
  refine lv_iload_n hx hb dX3_draw_0 rfl (lv_at hl 1 rfl) ?_
  refine gT_callSv (As := [.int x1]) (rest := []) C hP hS hl.1 (ct_X3_requireAccount l D cy ad hJ hlf x1 I L) fa_X3_requireAccount kl_X3_54 kst_X3_requireAccount rfl (by decide) (Nat.le_of_ble_eq_true rfl) (by decide) (ht) (by decide) (fun E9 I9 L9 hx9 => Or.inl (hx9)) dX3_draw_1 rfl (fun I1 L1 H locs hq hP hS => ?_)
  obtain ⟨h1_0, rfl, rfl⟩ := hq
  obtain ⟨e1_0, l1_0⟩ := vp_ix h1_0
  refine lv_iload_n hx hb dX3_draw_4 rfl (lv_at hl 2 rfl) ?_
  refine gT_callSv (As := [.int x2]) (rest := []) C hP hS hl.1 (ct_X3_requireShare l D cy ad hJ hlf x2 I L) fa_X3_requireShare kl_X3_58 kst_X3_requireShare rfl (by decide) (Nat.le_of_ble_eq_true rfl) (by decide) (ht) (by decide) (fun E9 I9 L9 hx9 => Or.inr (Or.inl (⟨h1_0, hx9⟩))) dX3_draw_5 rfl (fun I5 L5 H locs hq hP hS => ?_)
  obtain ⟨h5_0, rfl, rfl⟩ := hq
  refine lv_aload_n hx hb dX3_draw_8 rfl (lv_at hl 0 rfl) ?_
  refine g_get (v := .int (nI np)) (T := TX3) C hP 0 3 (by decide) rfl rfl inwX3 (by decide) kf_X3_22 (congrArg (fun z => some (Value.int z)) hnp) dX3_draw_9 ?_
  refine lv_bipush (v := 10) hx hb dX3_draw_12 (by decide) ?_
  refine lv_icmp_lt (tgt := 27) hx hb dX3_draw_14 (by decide) (fun c14 => ?_) (fun c14 => ?_)
  · have n14 : np < 10 := (nI_lttE rfl (show (10 : Int32) = nI 10 from rfl) (by omega) (by omega)).mp c14
    refine lv_aload_n hx hb dX3_draw_27 rfl (lv_at hl 0 rfl) ?_
    refine g_get (v := .int (nI np)) (T := TX3) C hP 0 3 (by decide) rfl rfl inwX3 (by decide) kf_X3_22 (congrArg (fun z => some (Value.int z)) hnp) dX3_draw_28 ?_
    refine lv_istore_n (lv' := [(3, .int (nI np)), (0, .ref (ad 0)), (1, .int x1), (2, .int x2)]) hx hb dX3_draw_31 rfl hl (by decide) rfl (fun ls hl => ?_)
    refine lv_aload_n hx hb dX3_draw_32 rfl (lv_at hl 1 rfl) ?_
    refine g_get (v := .ref (ad 3)) (T := TX3) C hP 0 2 (by decide) rfl rfl inwX3 (by decide) kf_X3_18 rfl dX3_draw_33 ?_
    refine lv_iload_n hx hb dX3_draw_36 rfl (lv_at hl 0 rfl) ?_
    refine g_aldP C hP np rfl (by omega) dX3_draw_37 ?_
    refine lv_iload_n hx hb dX3_draw_38 rfl (lv_at hl 2 rfl) ?_
    refine lv_iload_n hx hb dX3_draw_39 rfl (lv_at hl 3 rfl) ?_
    refine gM_callVNv (As := [.int x1, .int x2]) (rest := []) C hP hS hl.1 (ct_X1_appendLine l D cy ad hJ np 0 x1 x2 I L (by omega) ((hlc np (by omega)).trans (by rw [hlc0 np (Nat.le_refl _) (by omega)])) (by omega)) fa_X1_appendLine kn_m68 ki_X1_appendLine kse_X1_appendLine (by omega) (T := TX1) (kd_P (by omega) _ _) rfl rfl (by decide) (Nat.le_of_ble_eq_true rfl) (by decide) dX3_draw_40 rfl (fun I40 L40 H locs hq hP hS => ?_)
    obtain ⟨rfl, rfl⟩ := hq
    refine lv_aload_n hx hb dX3_draw_43 rfl (lv_at hl 1 rfl) ?_
    refine lv_dup hx hb dX3_draw_44 rfl ?_
    refine g_get (v := .int (nI np)) (T := TX3) C hP 0 3 (by decide) rfl rfl inwX3 (by decide) kf_X3_22 (congrArg (fun z => some (Value.int z)) ((congrFun (sI_row (by omega)) _).trans ((congrFun (sI_row (by omega)) _).trans ((congrFun (sI_row (by omega)) _).trans hnp)))) dX3_draw_45 ?_
    refine lv_iconst (v := 1) hx hb dX3_draw_48 (by decide) ?_
    refine lv_iadd hx hb dX3_draw_49 ?_
    refine g_putI (T := TX3) C hP hS 0 3 (by decide) rfl rfl inwX3 tyX3 tyX3_ok nmX3 (by decide) kf_X3_22 rfl rfl (by decide : 3 < 9) (by simp only [sI, va_up_self]; rfl) dX3_draw_50 (fun H locs hP hS => ?_)
    refine lv_iload_n hx hb dX3_draw_53 rfl (lv_at hl 0 rfl) ?_
    exact gT_iret C hr hP hS (by decide) (by decide) dX3_draw_54 (⟨h1_0, h5_0, n14, rfl, rfl, rfl⟩)
  · have n14 : ¬ np < 10 := (not_congr (nI_lttE rfl (show (10 : Int32) = nI 10 from rfl) (by omega) (by omega))).mp c14
    exact g_throwS (cls := xIS) C hlf hP hS hl.1 (by decide) kcl_X3_61 kini_IllegalStateException ks_63 gat_65 gan_65 gao_65 dX3_draw_17 dX3_draw_20 dX3_draw_21 dX3_draw_23 dX3_draw_26 ht (by decide) (by decide) (by decide) (by decide) (by decide) (Or.inr (Or.inr (⟨h1_0, h5_0, n14, rfl, rfl, rfl⟩)))
def pq_X3_add (np : Nat) (lc : Nat → Nat) (x1 : Int32) (x2 : Int32) (x3 : Int32) (I : MI) (L : ML) : Int32 → MI → ML → Prop := fun r I' L' => (vp_in x1 np ∧ vp_in x2 8 ∧ gSh x3 ∧ (¬ (∃ k, k < lc x1.toNatClampNeg ∧ I (96 + 4 * x1.toNatClampNeg) k = x2)) ∧ (I (95 + 4 * x1.toNatClampNeg) 3) = (-1) ∧ (lc x1.toNatClampNeg) < 4 ∧ (nI (lc x1.toNatClampNeg)) + 1 = r ∧ (sI (sI (sI I (96 + 4 * x1.toNatClampNeg) (lc x1.toNatClampNeg) x2) (97 + 4 * x1.toNatClampNeg) (lc x1.toNatClampNeg) x3) (95 + 4 * x1.toNatClampNeg) 2 ((nI (lc x1.toNatClampNeg)) + 1)) = I' ∧ L = L')
def px_X3_add (np : Nat) (lc : Nat → Nat) (x1 : Int32) (x2 : Int32) (x3 : Int32) (I : MI) (L : ML) : String → MI → ML → Prop := fun E I' L' => (¬ vp_in x1 np ∧ xIO = E ∧ I = I' ∧ L = L') ∨ (vp_in x1 np ∧ ¬ vp_in x2 8 ∧ xIO = E ∧ I = I' ∧ L = L') ∨ (vp_in x1 np ∧ vp_in x2 8 ∧ ¬ gSh x3 ∧ xIA = E ∧ I = I' ∧ L = L') ∨ (vp_in x1 np ∧ vp_in x2 8 ∧ gSh x3 ∧ (∃ k, k < lc x1.toNatClampNeg ∧ I (96 + 4 * x1.toNatClampNeg) k = x2) ∧ xIA = E ∧ I = I' ∧ L = L') ∨ (vp_in x1 np ∧ vp_in x2 8 ∧ gSh x3 ∧ (¬ (∃ k, k < lc x1.toNatClampNeg ∧ I (96 + 4 * x1.toNatClampNeg) k = x2)) ∧ (I (95 + 4 * x1.toNatClampNeg) 3) = (-1) ∧ ¬ (lc x1.toNatClampNeg) < 4 ∧ xIS = E ∧ I = I' ∧ L = L') ∨ (vp_in x1 np ∧ vp_in x2 8 ∧ gSh x3 ∧ (¬ (∃ k, k < lc x1.toNatClampNeg ∧ I (96 + 4 * x1.toNatClampNeg) k = x2)) ∧ ¬ (I (95 + 4 * x1.toNatClampNeg) 3) = (-1) ∧ xIS = E ∧ I = I' ∧ L = L')
set_option maxRecDepth 100000 in
set_option maxHeartbeats 4000000 in
theorem ct_X3_add (l : Launch) (D : va_G) (cy : Nat → ClassId) (ad : Nat → Nat) (hJ : gJ ad) (hlf : l.stackTraces = false) (np : Nat) (lc : Nat → Nat) (x1 : Int32) (x2 : Int32) (x3 : Int32) (I : MI) (L : ML) (hnp : I 0 3 = nI np) (hnp10 : np ≤ 10) (hlc : ∀ pp, pp < 10 → I (95 + 4 * pp) 2 = nI (lc pp)) (hlc4 : ∀ pp, pp < 10 → lc pp ≤ 4) : gTi l D cy ad yX3_add cX3_add 5 .int (gR 1 4 24) [.ref (ad 0), .int x1, .int x2, .int x3] I L (pq_X3_add np lc x1 x2 x3 I L) (px_X3_add np lc x1 x2 x3 I L) := by
  refine gTi_of hJ (by decide +kernel) kc_X3_add (Nat.le_of_ble_eq_true rfl) (fun p e s m below meth c A ls C hr ht hP hS hl => ?_)
  have hx := C.hx
  have hb := C.hb
  have hl : lv_has ls 5 [(0, .ref (ad 0)), (1, .int x1), (2, .int x2), (3, .int x3)] := hl
  refine lv_aload_n hx hb dX3_add_0 rfl (lv_at hl 0 rfl) ?_
  refine lv_iload_n hx hb dX3_add_1 rfl (lv_at hl 1 rfl) ?_
  refine gT_callVv (As := [.int x1]) (rest := []) C hP hS hl.1 (ct_X3_requireProcedure l D cy ad hJ hlf np x1 I L hnp hnp10) fa_X3_requireProcedure kl_X3_72 ki_X3_requireProcedure kse_X3_requireProcedure (by decide) (T := TX3) rfl rfl rfl (by decide) (Nat.le_of_ble_eq_true rfl) (by decide) (ht) (by decide) (fun E9 I9 L9 hx9 => Or.inl (hx9)) dX3_add_2 rfl (fun I2 L2 H locs hq hP hS => ?_)
  obtain ⟨h2_0, rfl, rfl⟩ := hq
  obtain ⟨e2_0, l2_0⟩ := vp_ix h2_0
  refine lv_iload_n hx hb dX3_add_5 rfl (lv_at hl 2 rfl) ?_
  refine gT_callSv (As := [.int x2]) (rest := []) C hP hS hl.1 (ct_X3_requireAccount l D cy ad hJ hlf x2 I L) fa_X3_requireAccount kl_X3_54 kst_X3_requireAccount rfl (by decide) (Nat.le_of_ble_eq_true rfl) (by decide) (ht) (by decide) (fun E9 I9 L9 hx9 => Or.inr (Or.inl (⟨h2_0, hx9⟩))) dX3_add_6 rfl (fun I6 L6 H locs hq hP hS => ?_)
  obtain ⟨h6_0, rfl, rfl⟩ := hq
  obtain ⟨e6_0, l6_0⟩ := vp_ix h6_0
  refine lv_iload_n hx hb dX3_add_9 rfl (lv_at hl 3 rfl) ?_
  refine gT_callSv (As := [.int x3]) (rest := []) C hP hS hl.1 (ct_X3_requireShare l D cy ad hJ hlf x3 I L) fa_X3_requireShare kl_X3_58 kst_X3_requireShare rfl (by decide) (Nat.le_of_ble_eq_true rfl) (by decide) (ht) (by decide) (fun E9 I9 L9 hx9 => Or.inr (Or.inr (Or.inl (⟨h2_0, h6_0, hx9⟩)))) dX3_add_10 rfl (fun I10 L10 H locs hq hP hS => ?_)
  obtain ⟨h10_0, rfl, rfl⟩ := hq
  refine lv_aload_n hx hb dX3_add_13 rfl (lv_at hl 0 rfl) ?_
  refine g_get (v := .ref (ad 3)) (T := TX3) C hP 0 2 (by decide) rfl rfl inwX3 (by decide) kf_X3_18 rfl dX3_add_14 ?_
  refine lv_iload_n hx hb dX3_add_17 rfl (lv_at hl 1 rfl) ?_
  refine g_aldP C hP x1.toNatClampNeg e2_0 (by omega) dX3_add_18 ?_
  refine lv_astore (lv' := [(4, .ref (ad (95 + 4 * x1.toNatClampNeg))), (0, .ref (ad 0)), (1, .int x1), (2, .int x2), (3, .int x3)]) hx hb dX3_add_19 hl (by decide) rfl (fun ls hl => ?_)
  refine lv_aload hx hb dX3_add_21 (lv_at hl 0 rfl) ?_
  refine lv_iload_n hx hb dX3_add_23 rfl (lv_at hl 3 rfl) ?_
  refine gM_callVNi (As := [.int x2]) (rest := []) C hP hS hl.1 (ct_X1_hasLineFor l D cy ad hJ x1.toNatClampNeg (lc x1.toNatClampNeg) x2 I L (by omega) (hlc x1.toNatClampNeg (by omega)) (hlc4 x1.toNatClampNeg (by omega))) fa_X1_hasLineFor kn_m75 ki_X1_hasLineFor kse_X1_hasLineFor (by omega) (T := TX1) (kd_P (by omega) _ _) rfl rfl (by decide) (Nat.le_of_ble_eq_true rfl) (by decide) dX3_add_24 rfl (fun r24 I24 L24 H locs hq hP hS => ?_)
  rcases hq with ⟨h24_0, rfl, rfl, rfl⟩ | ⟨h24_0, rfl, rfl, rfl⟩
  · refine lv_if_eq (tgt := 40) hx hb dX3_add_27 (by decide) (fun c => absurd c (by decide)) (fun c => ?_)
    exact g_throwS (cls := xIA) C hlf hP hS hl.1 (by decide) kcl_X3_79 kini_IllegalArgumentException ks_81 gat_83 gan_83 gao_83 dX3_add_30 dX3_add_33 dX3_add_34 dX3_add_36 dX3_add_39 ht (by decide) (by decide) (by decide) (by decide) (by decide) (Or.inr (Or.inr (Or.inr (Or.inl (⟨h2_0, h6_0, h10_0, h24_0, rfl, rfl, rfl⟩)))))
  · refine lv_if_eq (tgt := 40) hx hb dX3_add_27 (by decide) (fun c => ?_) (fun c => absurd c (by decide))
    refine lv_aload hx hb dX3_add_40 (lv_at hl 0 rfl) ?_
    refine gM_callVNi (As := []) (rest := []) C hP hS hl.1 (ct_X1_isCertified l D cy ad hJ x1.toNatClampNeg I L (by omega)) fa_X1_isCertified kn_m84 ki_X1_isCertified kse_X1_isCertified (by omega) (T := TX1) (kd_P (by omega) _ _) rfl rfl (by decide) (Nat.le_of_ble_eq_true rfl) (by decide) dX3_add_42 rfl (fun r42 I42 L42 H locs hq hP hS => ?_)
    rcases hq with ⟨h42_0, rfl, rfl, rfl⟩ | ⟨h42_0, rfl, rfl, rfl⟩
    · refine lv_if_ne (tgt := 57) hx hb dX3_add_45 (by decide) (fun c => absurd c (by decide)) (fun c => ?_)
      refine lv_aload hx hb dX3_add_48 (lv_at hl 0 rfl) ?_
      have g50 := hlc4 x1.toNatClampNeg (by omega)
      refine g_getN (v := .int (nI (lc x1.toNatClampNeg))) (T := TX1) C hP (95 + 4 * x1.toNatClampNeg) 2 (by omega) (kd_P (by omega) _ _) rfl inwX1 (by decide) kn_f88 (congrArg (fun z => some (Value.int z)) (hlc x1.toNatClampNeg (by omega))) dX3_add_50 ?_
      refine lv_iconst (v := 4) hx hb dX3_add_53 (by decide) ?_
      refine lv_icmp_lt (tgt := 67) hx hb dX3_add_54 (by decide) (fun c54 => ?_) (fun c54 => ?_)
      · have n54 : (lc x1.toNatClampNeg) < 4 := (nI_lttE rfl (show (4 : Int32) = nI 4 from rfl) (by omega) (by omega)).mp c54
        refine lv_aload hx hb dX3_add_67 (lv_at hl 0 rfl) ?_
        refine lv_iload_n hx hb dX3_add_69 rfl (lv_at hl 3 rfl) ?_
        refine lv_iload_n hx hb dX3_add_70 rfl (lv_at hl 4 rfl) ?_
        refine gM_callVNv (As := [.int x2, .int x3]) (rest := []) C hP hS hl.1 (ct_X1_appendLine l D cy ad hJ x1.toNatClampNeg (lc x1.toNatClampNeg) x2 x3 I L (by omega) (hlc x1.toNatClampNeg (by omega)) (by omega)) fa_X1_appendLine kn_m68 ki_X1_appendLine kse_X1_appendLine (by omega) (T := TX1) (kd_P (by omega) _ _) rfl rfl (by decide) (Nat.le_of_ble_eq_true rfl) (by decide) dX3_add_71 rfl (fun I71 L71 H locs hq hP hS => ?_)
        obtain ⟨rfl, rfl⟩ := hq
        refine lv_aload hx hb dX3_add_74 (lv_at hl 0 rfl) ?_
        have g76 := hlc4 x1.toNatClampNeg (by omega)
        refine g_getN (v := .int ((nI (lc x1.toNatClampNeg)) + 1)) (T := TX1) C hP (95 + 4 * x1.toNatClampNeg) 2 (by omega) (kd_P (by omega) _ _) rfl inwX1 (by decide) kn_f88 (congrArg (fun z => some (Value.int z)) sI_eq) dX3_add_76 ?_
        exact gT_iret C hr hP hS (by decide) (by decide) dX3_add_79 (⟨h2_0, h6_0, h10_0, h24_0, h42_0, n54, rfl, rfl, rfl⟩)
      · have n54 : ¬ (lc x1.toNatClampNeg) < 4 := (not_congr (nI_lttE rfl (show (4 : Int32) = nI 4 from rfl) (by omega) (by omega))).mp c54
        exact g_throwS (cls := xIS) C hlf hP hS hl.1 (by decide) kcl_X3_61 kini_IllegalStateException ks_91 gat_65 gan_65 gao_65 dX3_add_57 dX3_add_60 dX3_add_61 dX3_add_63 dX3_add_66 ht (by decide) (by decide) (by decide) (by decide) (by decide) (Or.inr (Or.inr (Or.inr (Or.inr (Or.inl (⟨h2_0, h6_0, h10_0, h24_0, h42_0, n54, rfl, rfl, rfl⟩))))))
    · refine lv_if_ne (tgt := 57) hx hb dX3_add_45 (by decide) (fun c => ?_) (fun c => absurd c (by decide))
      exact g_throwS (cls := xIS) C hlf hP hS hl.1 (by decide) kcl_X3_61 kini_IllegalStateException ks_91 gat_65 gan_65 gao_65 dX3_add_57 dX3_add_60 dX3_add_61 dX3_add_63 dX3_add_66 ht (by decide) (by decide) (by decide) (by decide) (by decide) (Or.inr (Or.inr (Or.inr (Or.inr (Or.inr (⟨h2_0, h6_0, h10_0, h24_0, h42_0, rfl, rfl, rfl⟩))))))
def pq_X3_certify (np : Nat) (lc : Nat → Nat) (x1 : Int32) (x2 : Int32) (I : MI) (L : ML) : MI → ML → Prop := fun I' L' => (vp_in x1 8 ∧ vp_in x2 np ∧ x1 < 2 ∧ (I (95 + 4 * x2.toNatClampNeg) 3) = (-1) ∧ ¬ (lc x2.toNatClampNeg) < 2 ∧ (gsm (I (97 + 4 * x2.toNatClampNeg)) (lc x2.toNatClampNeg)) = 0 ∧ (sI I (95 + 4 * x2.toNatClampNeg) 3 x1) = I' ∧ L = L')
def px_X3_certify (np : Nat) (lc : Nat → Nat) (x1 : Int32) (x2 : Int32) (I : MI) (L : ML) : String → MI → ML → Prop := fun E I' L' => (¬ vp_in x1 8 ∧ xIO = E ∧ I = I' ∧ L = L') ∨ (vp_in x1 8 ∧ ¬ vp_in x2 np ∧ xIO = E ∧ I = I' ∧ L = L') ∨ (vp_in x1 8 ∧ vp_in x2 np ∧ ¬ x1 < 2 ∧ xUO = E ∧ I = I' ∧ L = L') ∨ (vp_in x1 8 ∧ vp_in x2 np ∧ x1 < 2 ∧ (I (95 + 4 * x2.toNatClampNeg) 3) = (-1) ∧ (lc x2.toNatClampNeg) < 2 ∧ xIS = E ∧ I = I' ∧ L = L') ∨ (vp_in x1 8 ∧ vp_in x2 np ∧ x1 < 2 ∧ (I (95 + 4 * x2.toNatClampNeg) 3) = (-1) ∧ ¬ (lc x2.toNatClampNeg) < 2 ∧ ¬ (gsm (I (97 + 4 * x2.toNatClampNeg)) (lc x2.toNatClampNeg)) = 0 ∧ xIS = E ∧ I = I' ∧ L = L') ∨ (vp_in x1 8 ∧ vp_in x2 np ∧ x1 < 2 ∧ ¬ (I (95 + 4 * x2.toNatClampNeg) 3) = (-1) ∧ xIS = E ∧ I = I' ∧ L = L')
set_option maxRecDepth 100000 in
set_option maxHeartbeats 4000000 in
theorem ct_X3_certify (l : Launch) (D : va_G) (cy : Nat → ClassId) (ad : Nat → Nat) (hJ : gJ ad) (hlf : l.stackTraces = false) (np : Nat) (lc : Nat → Nat) (x1 : Int32) (x2 : Int32) (I : MI) (L : ML) (hnp : I 0 3 = nI np) (hnp10 : np ≤ 10) (hlc : ∀ pp, pp < 10 → I (95 + 4 * pp) 2 = nI (lc pp)) (hlc4 : ∀ pp, pp < 10 → lc pp ≤ 4) : gTv l D cy ad yX3_certify cX3_certify 4 (gR 1 4 24) [.ref (ad 0), .int x1, .int x2] I L (pq_X3_certify np lc x1 x2 I L) (px_X3_certify np lc x1 x2 I L) := by
  refine gTv_of hJ (by decide +kernel) kc_X3_certify (Nat.le_of_ble_eq_true rfl) (fun p e s m below meth c A ls C hr ht hP hS hl => ?_)
  have hx := C.hx
  have hb := C.hb
  have hl : lv_has ls 4 [(0, .ref (ad 0)), (1, .int x1), (2, .int x2)] := hl
  refine lv_iload_n hx hb dX3_certify_0 rfl (lv_at hl 1 rfl) ?_
  refine gT_callSv (As := [.int x1]) (rest := []) C hP hS hl.1 (ct_X3_requireUser l D cy ad hJ hlf x1 I L) fa_X3_requireUser kl_X3_93 kst_X3_requireUser rfl (by decide) (Nat.le_of_ble_eq_true rfl) (by decide) (ht) (by decide) (fun E9 I9 L9 hx9 => Or.inl (hx9)) dX3_certify_1 rfl (fun I1 L1 H locs hq hP hS => ?_)
  obtain ⟨h1_0, rfl, rfl⟩ := hq
  obtain ⟨e1_0, l1_0⟩ := vp_ix h1_0
  refine lv_aload_n hx hb dX3_certify_4 rfl (lv_at hl 0 rfl) ?_
  refine lv_iload_n hx hb dX3_certify_5 rfl (lv_at hl 2 rfl) ?_
  refine gT_callVv (As := [.int x2]) (rest := []) C hP hS hl.1 (ct_X3_requireProcedure l D cy ad hJ hlf np x2 I L hnp hnp10) fa_X3_requireProcedure kl_X3_72 ki_X3_requireProcedure kse_X3_requireProcedure (by decide) (T := TX3) rfl rfl rfl (by decide) (Nat.le_of_ble_eq_true rfl) (by decide) (ht) (by decide) (fun E9 I9 L9 hx9 => Or.inr (Or.inl (⟨h1_0, hx9⟩))) dX3_certify_6 rfl (fun I6 L6 H locs hq hP hS => ?_)
  obtain ⟨h6_0, rfl, rfl⟩ := hq
  obtain ⟨e6_0, l6_0⟩ := vp_ix h6_0
  refine lv_iload_n hx hb dX3_certify_9 rfl (lv_at hl 1 rfl) ?_
  refine gT_callSv (As := [.int x1]) (rest := []) C hP hS hl.1 (ct_X3_requireOfficer l D cy ad hJ hlf x1 I L) fa_X3_requireOfficer kl_X3_96 kst_X3_requireOfficer rfl (by decide) (Nat.le_of_ble_eq_true rfl) (by decide) (ht) (by decide) (fun E9 I9 L9 hx9 => Or.inr (Or.inr (Or.inl (⟨h1_0, h6_0, hx9⟩)))) dX3_certify_10 rfl (fun I10 L10 H locs hq hP hS => ?_)
  obtain ⟨h10_0, rfl, rfl⟩ := hq
  refine lv_aload_n hx hb dX3_certify_13 rfl (lv_at hl 0 rfl) ?_
  refine g_get (v := .ref (ad 3)) (T := TX3) C hP 0 2 (by decide) rfl rfl inwX3 (by decide) kf_X3_18 rfl dX3_certify_14 ?_
  refine lv_iload_n hx hb dX3_certify_17 rfl (lv_at hl 2 rfl) ?_
  refine g_aldP C hP x2.toNatClampNeg e6_0 (by omega) dX3_certify_18 ?_
  refine lv_astore_n (lv' := [(3, .ref (ad (95 + 4 * x2.toNatClampNeg))), (0, .ref (ad 0)), (1, .int x1), (2, .int x2)]) hx hb dX3_certify_19 rfl hl (by decide) rfl (fun ls hl => ?_)
  refine lv_aload_n hx hb dX3_certify_20 rfl (lv_at hl 0 rfl) ?_
  refine gM_callVNi (As := []) (rest := []) C hP hS hl.1 (ct_X1_isCertified l D cy ad hJ x2.toNatClampNeg I L (by omega)) fa_X1_isCertified kn_m84 ki_X1_isCertified kse_X1_isCertified (by omega) (T := TX1) (kd_P (by omega) _ _) rfl rfl (by decide) (Nat.le_of_ble_eq_true rfl) (by decide) dX3_certify_21 rfl (fun r21 I21 L21 H locs hq hP hS => ?_)
  rcases hq with ⟨h21_0, rfl, rfl, rfl⟩ | ⟨h21_0, rfl, rfl, rfl⟩
  · refine lv_if_ne (tgt := 42) hx hb dX3_certify_24 (by decide) (fun c => absurd c (by decide)) (fun c => ?_)
    refine lv_aload_n hx hb dX3_certify_27 rfl (lv_at hl 0 rfl) ?_
    have g28 := hlc4 x2.toNatClampNeg (by omega)
    refine g_getN (v := .int (nI (lc x2.toNatClampNeg))) (T := TX1) C hP (95 + 4 * x2.toNatClampNeg) 2 (by omega) (kd_P (by omega) _ _) rfl inwX1 (by decide) kn_f88 (congrArg (fun z => some (Value.int z)) (hlc x2.toNatClampNeg (by omega))) dX3_certify_28 ?_
    refine lv_iconst (v := 2) hx hb dX3_certify_31 (by decide) ?_
    refine lv_icmp_lt (tgt := 42) hx hb dX3_certify_32 (by decide) (fun c32 => ?_) (fun c32 => ?_)
    · have n32 : (lc x2.toNatClampNeg) < 2 := (nI_lttE rfl (show (2 : Int32) = nI 2 from rfl) (by omega) (by omega)).mp c32
      exact g_throwS (cls := xIS) C hlf hP hS hl.1 (by decide) kcl_X3_61 kini_IllegalStateException ks_103 gat_65 gan_65 gao_65 dX3_certify_42 dX3_certify_45 dX3_certify_46 dX3_certify_48 dX3_certify_51 ht (by decide) (by decide) (by decide) (by decide) (by decide) (Or.inr (Or.inr (Or.inr (Or.inl (⟨h1_0, h6_0, h10_0, h21_0, n32, rfl, rfl, rfl⟩)))))
    · have n32 : ¬ (lc x2.toNatClampNeg) < 2 := (not_congr (nI_lttE rfl (show (2 : Int32) = nI 2 from rfl) (by omega) (by omega))).mp c32
      refine lv_aload_n hx hb dX3_certify_35 rfl (lv_at hl 0 rfl) ?_
      refine gM_callVNi (As := []) (rest := []) C hP hS hl.1 (ct_X1_shareSum l D cy ad hJ x2.toNatClampNeg (lc x2.toNatClampNeg) I L (by omega) (hlc x2.toNatClampNeg (by omega)) (hlc4 x2.toNatClampNeg (by omega))) fa_X1_shareSum kn_m99 ki_X1_shareSum kse_X1_shareSum (by omega) (T := TX1) (kd_P (by omega) _ _) rfl rfl (by decide) (Nat.le_of_ble_eq_true rfl) (by decide) dX3_certify_36 rfl (fun r36 I36 L36 H locs hq hP hS => ?_)
      obtain ⟨rfl, rfl, rfl⟩ := hq
      refine lv_if_eq (tgt := 52) hx hb dX3_certify_39 (by decide) (fun c39 => ?_) (fun c39 => ?_)
      · refine lv_aload_n hx hb dX3_certify_52 rfl (lv_at hl 0 rfl) ?_
        refine lv_iload_n hx hb dX3_certify_53 rfl (lv_at hl 2 rfl) ?_
        refine g_putIN (T := TX1) C hP hS (95 + 4 * x2.toNatClampNeg) 3 (by omega) (kd_P (by omega) _ _) rfl inwX1 tyX1 tyX1_ok nmX1 (by decide) kn_f105 rfl rfl (by decide : 3 < 5) ((kd_P (by omega) _ _).trans (by simp only [sI, va_up_self]; rfl)) dX3_certify_54 (fun H locs hP hS => ?_)
        exact gT_vret C hr hP hS (by decide) (by decide) dX3_certify_57 (⟨h1_0, h6_0, h10_0, h21_0, n32, c39, rfl, rfl⟩)
      · exact g_throwS (cls := xIS) C hlf hP hS hl.1 (by decide) kcl_X3_61 kini_IllegalStateException ks_103 gat_65 gan_65 gao_65 dX3_certify_42 dX3_certify_45 dX3_certify_46 dX3_certify_48 dX3_certify_51 ht (by decide) (by decide) (by decide) (by decide) (by decide) (Or.inr (Or.inr (Or.inr (Or.inr (Or.inl (⟨h1_0, h6_0, h10_0, h21_0, n32, c39, rfl, rfl, rfl⟩))))))
  · refine lv_if_ne (tgt := 42) hx hb dX3_certify_24 (by decide) (fun c => ?_) (fun c => absurd c (by decide))
    exact g_throwS (cls := xIS) C hlf hP hS hl.1 (by decide) kcl_X3_61 kini_IllegalStateException ks_103 gat_65 gan_65 gao_65 dX3_certify_42 dX3_certify_45 dX3_certify_46 dX3_certify_48 dX3_certify_51 ht (by decide) (by decide) (by decide) (by decide) (by decide) (Or.inr (Or.inr (Or.inr (Or.inr (Or.inr (⟨h1_0, h6_0, h10_0, h21_0, rfl, rfl, rfl⟩))))))
def pq_X3_grant (np : Nat) (x1 : Int32) (x2 : Int32) (x3 : Int32) (x4 : Int32) (I : MI) (L : ML) : Int32 → MI → ML → Prop := fun r I' L' => (vp_in x1 8 ∧ vp_in x2 8 ∧ vp_in x3 np ∧ x1 < 2 ∧ ¬ x1.toNatClampNeg = x2.toNatClampNeg ∧ (I (98 + 4 * x3.toNatClampNeg) x2.toNatClampNeg) = x4 ∧ (0 : Int32) = r ∧ (sI I (98 + 4 * x3.toNatClampNeg) x2.toNatClampNeg x4) = I' ∧ L = L') ∨ (vp_in x1 8 ∧ vp_in x2 8 ∧ vp_in x3 np ∧ x1 < 2 ∧ ¬ x1.toNatClampNeg = x2.toNatClampNeg ∧ ¬ (I (98 + 4 * x3.toNatClampNeg) x2.toNatClampNeg) = x4 ∧ (1 : Int32) = r ∧ (sI I (98 + 4 * x3.toNatClampNeg) x2.toNatClampNeg x4) = I' ∧ L = L')
def px_X3_grant (np : Nat) (x1 : Int32) (x2 : Int32) (x3 : Int32) (x4 : Int32) (I : MI) (L : ML) : String → MI → ML → Prop := fun E I' L' => (¬ vp_in x1 8 ∧ xIO = E ∧ I = I' ∧ L = L') ∨ (vp_in x1 8 ∧ ¬ vp_in x2 8 ∧ xIO = E ∧ I = I' ∧ L = L') ∨ (vp_in x1 8 ∧ vp_in x2 8 ∧ ¬ vp_in x3 np ∧ xIO = E ∧ I = I' ∧ L = L') ∨ (vp_in x1 8 ∧ vp_in x2 8 ∧ vp_in x3 np ∧ ¬ x1 < 2 ∧ xUO = E ∧ I = I' ∧ L = L') ∨ (vp_in x1 8 ∧ vp_in x2 8 ∧ vp_in x3 np ∧ x1 < 2 ∧ x1.toNatClampNeg = x2.toNatClampNeg ∧ xUO = E ∧ I = I' ∧ L = L')
set_option maxRecDepth 100000 in
set_option maxHeartbeats 4000000 in
theorem ct_X3_grant (l : Launch) (D : va_G) (cy : Nat → ClassId) (ad : Nat → Nat) (hJ : gJ ad) (hlf : l.stackTraces = false) (np : Nat) (x1 : Int32) (x2 : Int32) (x3 : Int32) (x4 : Int32) (I : MI) (L : ML) (hnp : I 0 3 = nI np) (hnp10 : np ≤ 10) (hb4 : x4 = 0 ∨ x4 = 1) : gTi l D cy ad yX3_grant cX3_grant 7 .boolean (gR 1 5 30) [.ref (ad 0), .int x1, .int x2, .int x3, .int x4] I L (pq_X3_grant np x1 x2 x3 x4 I L) (px_X3_grant np x1 x2 x3 x4 I L) := by
  refine gTi_of hJ (by decide +kernel) kc_X3_grant (Nat.le_of_ble_eq_true rfl) (fun p e s m below meth c A ls C hr ht hP hS hl => ?_)
  have hx := C.hx
  have hb := C.hb
  have hl : lv_has ls 7 [(0, .ref (ad 0)), (1, .int x1), (2, .int x2), (3, .int x3), (4, .int x4)] := hl
  refine lv_iload_n hx hb dX3_grant_0 rfl (lv_at hl 1 rfl) ?_
  refine gT_callSv (As := [.int x1]) (rest := []) C hP hS hl.1 (ct_X3_requireUser l D cy ad hJ hlf x1 I L) fa_X3_requireUser kl_X3_93 kst_X3_requireUser rfl (by decide) (Nat.le_of_ble_eq_true rfl) (by decide) (ht) (by decide) (fun E9 I9 L9 hx9 => Or.inl (hx9)) dX3_grant_1 rfl (fun I1 L1 H locs hq hP hS => ?_)
  obtain ⟨h1_0, rfl, rfl⟩ := hq
  obtain ⟨e1_0, l1_0⟩ := vp_ix h1_0
  refine lv_iload_n hx hb dX3_grant_4 rfl (lv_at hl 2 rfl) ?_
  refine gT_callSv (As := [.int x2]) (rest := []) C hP hS hl.1 (ct_X3_requireUser l D cy ad hJ hlf x2 I L) fa_X3_requireUser kl_X3_93 kst_X3_requireUser rfl (by decide) (Nat.le_of_ble_eq_true rfl) (by decide) (ht) (by decide) (fun E9 I9 L9 hx9 => Or.inr (Or.inl (⟨h1_0, hx9⟩))) dX3_grant_5 rfl (fun I5 L5 H locs hq hP hS => ?_)
  obtain ⟨h5_0, rfl, rfl⟩ := hq
  obtain ⟨e5_0, l5_0⟩ := vp_ix h5_0
  refine lv_aload_n hx hb dX3_grant_8 rfl (lv_at hl 0 rfl) ?_
  refine lv_iload_n hx hb dX3_grant_9 rfl (lv_at hl 3 rfl) ?_
  refine gT_callVv (As := [.int x3]) (rest := []) C hP hS hl.1 (ct_X3_requireProcedure l D cy ad hJ hlf np x3 I L hnp hnp10) fa_X3_requireProcedure kl_X3_72 ki_X3_requireProcedure kse_X3_requireProcedure (by decide) (T := TX3) rfl rfl rfl (by decide) (Nat.le_of_ble_eq_true rfl) (by decide) (ht) (by decide) (fun E9 I9 L9 hx9 => Or.inr (Or.inr (Or.inl (⟨h1_0, h5_0, hx9⟩)))) dX3_grant_10 rfl (fun I10 L10 H locs hq hP hS => ?_)
  obtain ⟨h10_0, rfl, rfl⟩ := hq
  obtain ⟨e10_0, l10_0⟩ := vp_ix h10_0
  refine lv_iload_n hx hb dX3_grant_13 rfl (lv_at hl 1 rfl) ?_
  refine gT_callSv (As := [.int x1]) (rest := []) C hP hS hl.1 (ct_X3_requireOfficer l D cy ad hJ hlf x1 I L) fa_X3_requireOfficer kl_X3_96 kst_X3_requireOfficer rfl (by decide) (Nat.le_of_ble_eq_true rfl) (by decide) (ht) (by decide) (fun E9 I9 L9 hx9 => Or.inr (Or.inr (Or.inr (Or.inl (⟨h1_0, h5_0, h10_0, hx9⟩))))) dX3_grant_14 rfl (fun I14 L14 H locs hq hP hS => ?_)
  obtain ⟨h14_0, rfl, rfl⟩ := hq
  refine lv_iload_n hx hb dX3_grant_17 rfl (lv_at hl 1 rfl) ?_
  refine lv_iload_n hx hb dX3_grant_18 rfl (lv_at hl 2 rfl) ?_
  refine lv_icmp_ne (tgt := 32) hx hb dX3_grant_19 (by decide) (fun c19 => ?_) (fun c19 => ?_)
  · have n19 : ¬ x1.toNatClampNeg = x2.toNatClampNeg := (not_congr (nI_eqqE e1_0 e5_0 (by omega) (by omega))).mp c19
    refine lv_aload_n hx hb dX3_grant_32 rfl (lv_at hl 0 rfl) ?_
    refine g_get (v := .ref (ad 3)) (T := TX3) C hP 0 2 (by decide) rfl rfl inwX3 (by decide) kf_X3_18 rfl dX3_grant_33 ?_
    refine lv_iload_n hx hb dX3_grant_36 rfl (lv_at hl 3 rfl) ?_
    refine g_aldP C hP x3.toNatClampNeg e10_0 (by omega) dX3_grant_37 ?_
    refine lv_astore (lv' := [(5, .ref (ad (95 + 4 * x3.toNatClampNeg))), (0, .ref (ad 0)), (1, .int x1), (2, .int x2), (3, .int x3), (4, .int x4)]) hx hb dX3_grant_38 hl (by decide) rfl (fun ls hl => ?_)
    refine lv_aload hx hb dX3_grant_40 (lv_at hl 0 rfl) ?_
    refine g_getN (v := .ref (ad (98 + 4 * x3.toNatClampNeg))) (T := TX1) C hP (95 + 4 * x3.toNatClampNeg) 4 (by omega) (kd_P (by omega) _ _) rfl inwX1 (by decide) kn_f113 rfl dX3_grant_42 ?_
    refine lv_iload_n hx hb dX3_grant_45 rfl (lv_at hl 3 rfl) ?_
    refine g_zald (v := I (98 + 4 * x3.toNatClampNeg) x2.toNatClampNeg) C hP (98 + 4 * x3.toNatClampNeg) 8 (by omega) (kd_PG (by omega)) x2.toNatClampNeg e5_0 rfl (by omega) (by decide) dX3_grant_46 ?_
    refine lv_iload hx hb dX3_grant_47 (lv_at hl 5 rfl) ?_
    refine lv_icmp_eq (tgt := 56) hx hb dX3_grant_49 (by decide) (fun c49 => ?_) (fun c49 => ?_)
    · refine lv_iconst (v := 0) hx hb dX3_grant_56 (by decide) ?_
      refine lv_istore (lv' := [(6, .int 0), (5, .ref (ad (95 + 4 * x3.toNatClampNeg))), (0, .ref (ad 0)), (1, .int x1), (2, .int x2), (3, .int x3), (4, .int x4)]) hx hb dX3_grant_57 hl (by decide) rfl (fun ls hl => ?_)
      refine lv_aload hx hb dX3_grant_59 (lv_at hl 1 rfl) ?_
      refine g_getN (v := .ref (ad (98 + 4 * x3.toNatClampNeg))) (T := TX1) C hP (95 + 4 * x3.toNatClampNeg) 4 (by omega) (kd_P (by omega) _ _) rfl inwX1 (by decide) kn_f113 rfl dX3_grant_61 ?_
      refine lv_iload_n hx hb dX3_grant_64 rfl (lv_at hl 4 rfl) ?_
      refine lv_iload hx hb dX3_grant_65 (lv_at hl 6 rfl) ?_
      refine g_zast C hP hS (98 + 4 * x3.toNatClampNeg) 8 (by omega) (kd_PG (by omega)) (gb_nar hb4) x2.toNatClampNeg e5_0 (by omega) (by decide) dX3_grant_67 (fun H locs hP hS => ?_)
      refine lv_iload hx hb dX3_grant_68 (lv_at hl 0 rfl) ?_
      exact gT_zret C hr narrow_b0 hP hS (by decide) (by decide) dX3_grant_70 (Or.inl (⟨h1_0, h5_0, h10_0, h14_0, n19, c49, rfl, rfl, rfl⟩))
    · refine lv_iconst (v := 1) hx hb dX3_grant_52 (by decide) ?_
      refine lv_goto (tgt := 57) hx hb dX3_grant_53 (by decide) ?_
      refine lv_istore (lv' := [(6, .int 1), (5, .ref (ad (95 + 4 * x3.toNatClampNeg))), (0, .ref (ad 0)), (1, .int x1), (2, .int x2), (3, .int x3), (4, .int x4)]) hx hb dX3_grant_57 hl (by decide) rfl (fun ls hl => ?_)
      refine lv_aload hx hb dX3_grant_59 (lv_at hl 1 rfl) ?_
      refine g_getN (v := .ref (ad (98 + 4 * x3.toNatClampNeg))) (T := TX1) C hP (95 + 4 * x3.toNatClampNeg) 4 (by omega) (kd_P (by omega) _ _) rfl inwX1 (by decide) kn_f113 rfl dX3_grant_61 ?_
      refine lv_iload_n hx hb dX3_grant_64 rfl (lv_at hl 4 rfl) ?_
      refine lv_iload hx hb dX3_grant_65 (lv_at hl 6 rfl) ?_
      refine g_zast C hP hS (98 + 4 * x3.toNatClampNeg) 8 (by omega) (kd_PG (by omega)) (gb_nar hb4) x2.toNatClampNeg e5_0 (by omega) (by decide) dX3_grant_67 (fun H locs hP hS => ?_)
      refine lv_iload hx hb dX3_grant_68 (lv_at hl 0 rfl) ?_
      exact gT_zret C hr narrow_b1 hP hS (by decide) (by decide) dX3_grant_70 (Or.inr (⟨h1_0, h5_0, h10_0, h14_0, n19, c49, rfl, rfl, rfl⟩))
  · have n19 : x1.toNatClampNeg = x2.toNatClampNeg := (nI_eqqE e1_0 e5_0 (by omega) (by omega)).mp c19
    exact g_throwS (cls := xUO) C hlf hP hS hl.1 (by decide) kcl_X3_108 kini_UnsupportedOperationException ks_110 gat_112 gan_112 gao_112 dX3_grant_22 dX3_grant_25 dX3_grant_26 dX3_grant_28 dX3_grant_31 ht (by decide) (by decide) (by decide) (by decide) (by decide) (Or.inr (Or.inr (Or.inr (Or.inr (⟨h1_0, h5_0, h10_0, h14_0, n19, rfl, rfl, rfl⟩)))))
def pq_X3_floor (x1 : Int32) (x2 : Int32) (x3 : Int64) (I : MI) (L : ML) : Int64 → MI → ML → Prop := fun r I' L' => (vp_in x1 8 ∧ vp_in x2 8 ∧ x1 < 2 ∧ ¬ x3 < (-1000000000000) ∧ x3 ≤ 1000000000000 ∧ L 2 x2.toNatClampNeg = r ∧ I = I' ∧ (sL L 2 x2.toNatClampNeg x3) = L')
def px_X3_floor (x1 : Int32) (x2 : Int32) (x3 : Int64) (I : MI) (L : ML) : String → MI → ML → Prop := fun E I' L' => (¬ vp_in x1 8 ∧ xIO = E ∧ I = I' ∧ L = L') ∨ (vp_in x1 8 ∧ ¬ vp_in x2 8 ∧ xIO = E ∧ I = I' ∧ L = L') ∨ (vp_in x1 8 ∧ vp_in x2 8 ∧ ¬ x1 < 2 ∧ xUO = E ∧ I = I' ∧ L = L') ∨ (vp_in x1 8 ∧ vp_in x2 8 ∧ x1 < 2 ∧ x3 < (-1000000000000) ∧ xIA = E ∧ I = I' ∧ L = L') ∨ (vp_in x1 8 ∧ vp_in x2 8 ∧ x1 < 2 ∧ ¬ x3 < (-1000000000000) ∧ ¬ x3 ≤ 1000000000000 ∧ xIA = E ∧ I = I' ∧ L = L')
set_option maxRecDepth 100000 in
set_option maxHeartbeats 4000000 in
theorem ct_X3_floor (l : Launch) (D : va_G) (cy : Nat → ClassId) (ad : Nat → Nat) (hJ : gJ ad) (hlf : l.stackTraces = false) (x1 : Int32) (x2 : Int32) (x3 : Int64) (I : MI) (L : ML) : gTl l D cy ad yX3_floor cX3_floor 7 .long (gR 1 4 24) [.ref (ad 0), .int x1, .int x2, .long x3] I L (pq_X3_floor x1 x2 x3 I L) (px_X3_floor x1 x2 x3 I L) := by
  refine gTl_of hJ (by decide +kernel) kc_X3_floor (Nat.le_of_ble_eq_true rfl) (fun p e s m below meth c A ls C hr ht hP hS hl => ?_)
  have hx := C.hx
  have hb := C.hb
  have hl : lv_has ls 7 [(0, .ref (ad 0)), (1, .int x1), (2, .int x2), (3, .long x3)] := hl
  refine lv_iload_n hx hb dX3_floor_0 rfl (lv_at hl 1 rfl) ?_
  refine gT_callSv (As := [.int x1]) (rest := []) C hP hS hl.1 (ct_X3_requireUser l D cy ad hJ hlf x1 I L) fa_X3_requireUser kl_X3_93 kst_X3_requireUser rfl (by decide) (Nat.le_of_ble_eq_true rfl) (by decide) (ht) (by decide) (fun E9 I9 L9 hx9 => Or.inl (hx9)) dX3_floor_1 rfl (fun I1 L1 H locs hq hP hS => ?_)
  obtain ⟨h1_0, rfl, rfl⟩ := hq
  obtain ⟨e1_0, l1_0⟩ := vp_ix h1_0
  refine lv_iload_n hx hb dX3_floor_4 rfl (lv_at hl 2 rfl) ?_
  refine gT_callSv (As := [.int x2]) (rest := []) C hP hS hl.1 (ct_X3_requireAccount l D cy ad hJ hlf x2 I L) fa_X3_requireAccount kl_X3_54 kst_X3_requireAccount rfl (by decide) (Nat.le_of_ble_eq_true rfl) (by decide) (ht) (by decide) (fun E9 I9 L9 hx9 => Or.inr (Or.inl (⟨h1_0, hx9⟩))) dX3_floor_5 rfl (fun I5 L5 H locs hq hP hS => ?_)
  obtain ⟨h5_0, rfl, rfl⟩ := hq
  obtain ⟨e5_0, l5_0⟩ := vp_ix h5_0
  refine lv_iload_n hx hb dX3_floor_8 rfl (lv_at hl 1 rfl) ?_
  refine gT_callSv (As := [.int x1]) (rest := []) C hP hS hl.1 (ct_X3_requireOfficer l D cy ad hJ hlf x1 I L) fa_X3_requireOfficer kl_X3_96 kst_X3_requireOfficer rfl (by decide) (Nat.le_of_ble_eq_true rfl) (by decide) (ht) (by decide) (fun E9 I9 L9 hx9 => Or.inr (Or.inr (Or.inl (⟨h1_0, h5_0, hx9⟩)))) dX3_floor_9 rfl (fun I9 L9 H locs hq hP hS => ?_)
  obtain ⟨h9_0, rfl, rfl⟩ := hq
  refine lv_lload_n hx hb dX3_floor_12 rfl (lv_at hl 3 rfl) ?_
  refine gM_callSi (As := [.long x3]) (rest := []) C hP hS hl.1 (ct_X3_isBeyondLimit l D cy ad hJ x3 I L) fa_X3_isBeyondLimit kl_X3_117 kst_X3_isBeyondLimit rfl (by decide) (Nat.le_of_ble_eq_true rfl) (by decide) dX3_floor_13 rfl (fun r13 I13 L13 H locs hq hP hS => ?_)
  rcases hq with ⟨h13_0, rfl, rfl, rfl⟩ | ⟨h13_0, h13_1, rfl, rfl, rfl⟩ | ⟨h13_0, h13_1, rfl, rfl, rfl⟩
  · refine lv_if_eq (tgt := 29) hx hb dX3_floor_16 (by decide) (fun c => absurd c (by decide)) (fun c => ?_)
    exact g_throwS (cls := xIA) C hlf hP hS hl.1 (by decide) kcl_X3_79 kini_IllegalArgumentException ks_121 gat_83 gan_83 gao_83 dX3_floor_19 dX3_floor_22 dX3_floor_23 dX3_floor_25 dX3_floor_28 ht (by decide) (by decide) (by decide) (by decide) (by decide) (Or.inr (Or.inr (Or.inr (Or.inl (⟨h1_0, h5_0, h9_0, h13_0, rfl, rfl, rfl⟩)))))
  · refine lv_if_eq (tgt := 29) hx hb dX3_floor_16 (by decide) (fun c => ?_) (fun c => absurd c (by decide))
    refine lv_aload_n hx hb dX3_floor_29 rfl (lv_at hl 0 rfl) ?_
    refine g_get (v := .ref (ad 2)) (T := TX3) C hP 0 1 (by decide) rfl rfl inwX3 (by decide) kf_X3_13 rfl dX3_floor_30 ?_
    refine lv_iload_n hx hb dX3_floor_33 rfl (lv_at hl 2 rfl) ?_
    refine g_lald (v := L 2 x2.toNatClampNeg) C hP 2 8 (by decide) (fun _ _ => rfl) x2.toNatClampNeg e5_0 rfl (by omega) (by decide) dX3_floor_34 ?_
    refine lv_lstore (lv' := [(5, .long (L 2 x2.toNatClampNeg)), (0, .ref (ad 0)), (1, .int x1), (2, .int x2), (3, .long x3)]) hx hb dX3_floor_35 hl (by decide) rfl (fun ls hl => ?_)
    refine lv_aload_n hx hb dX3_floor_37 rfl (lv_at hl 1 rfl) ?_
    refine g_get (v := .ref (ad 2)) (T := TX3) C hP 0 1 (by decide) rfl rfl inwX3 (by decide) kf_X3_13 rfl dX3_floor_38 ?_
    refine lv_iload_n hx hb dX3_floor_41 rfl (lv_at hl 3 rfl) ?_
    refine lv_lload_n hx hb dX3_floor_42 rfl (lv_at hl 4 rfl) ?_
    refine g_last C hP hS 2 8 (by decide) (fun _ _ => rfl) x2.toNatClampNeg e5_0 (by omega) (by decide) dX3_floor_43 (fun H locs hP hS => ?_)
    refine lv_lload hx hb dX3_floor_44 (lv_at hl 0 rfl) ?_
    exact gT_lret C hr hP hS (by decide) (by decide) dX3_floor_46 (⟨h1_0, h5_0, h9_0, h13_0, h13_1, rfl, rfl, rfl⟩)
  · refine lv_if_eq (tgt := 29) hx hb dX3_floor_16 (by decide) (fun c => absurd c (by decide)) (fun c => ?_)
    exact g_throwS (cls := xIA) C hlf hP hS hl.1 (by decide) kcl_X3_79 kini_IllegalArgumentException ks_121 gat_83 gan_83 gao_83 dX3_floor_19 dX3_floor_22 dX3_floor_23 dX3_floor_25 dX3_floor_28 ht (by decide) (by decide) (by decide) (by decide) (by decide) (Or.inr (Or.inr (Or.inr (Or.inr (⟨h1_0, h5_0, h9_0, h13_0, h13_1, rfl, rfl, rfl⟩)))))
def pq_X3_ask (np : Nat) (ne : Nat) (lc : Nat → Nat) (x1 : Int32) (x2 : Int32) (x3 : Int64) (I : MI) (L : ML) : Int32 → MI → ML → Prop := fun r I' L' => (vp_in x1 8 ∧ vp_in x2 np ∧ gMR np I x1 x2 ∧ ¬ x3 < 1 ∧ x3 ≤ 100000000000 ∧ (gcn (L 1) (L (54 + ne)) 8) = 0 ∧ ne < 40 ∧ x3 ≤ 10000 ∧ (∀ k, k < (lc x2.toNatClampNeg) → ¬ gfl (I (96 + 4 * x2.toNatClampNeg)) ((gPW L x3 (I (97 + 4 * x2.toNatClampNeg)) (lc x2.toNatClampNeg) (-1)) 1) ((gPW L x3 (I (97 + 4 * x2.toNatClampNeg)) (lc x2.toNatClampNeg) (-1)) 2) ((gPW L x3 (I (97 + 4 * x2.toNatClampNeg)) (lc x2.toNatClampNeg) (-1)) 7) k) ∧ nI ne = r ∧ (sI (sI (sI (sI (sI I (14 + ne) 0 x2) (14 + ne) 2 x1) (14 + ne) 3 (-1)) (14 + ne) 4 (-1)) 0 6 (nI ne + 1)) = I' ∧ (sL (gRL (gcp (gPW L x3 (I (97 + 4 * x2.toNatClampNeg)) (lc x2.toNatClampNeg) (-1)) ne) (I (96 + 4 * x2.toNatClampNeg)) (54 + (ne + 1)) (lc x2.toNatClampNeg)) (14 + ne) 1 x3) = L') ∨ (vp_in x1 8 ∧ vp_in x2 np ∧ gMR np I x1 x2 ∧ ¬ x3 < 1 ∧ x3 ≤ 100000000000 ∧ (gcn (L 1) (L (54 + ne)) 8) = 0 ∧ ne < 40 ∧ ¬ x3 ≤ 10000 ∧ gfq (fun k => I (8 + k) 0) < 6 ∧ 100 + (nI (gfq (fun k => I (8 + k) 0))) = r ∧ (sI (sI I (8 + (gfq (fun k => I (8 + k) 0))) 0 x1) (8 + (gfq (fun k => I (8 + k) 0))) 1 x2) = I' ∧ (sL L (8 + (gfq (fun k => I (8 + k) 0))) 2 x3) = L')
def px_X3_ask (np : Nat) (ne : Nat) (lc : Nat → Nat) (x1 : Int32) (x2 : Int32) (x3 : Int64) (I : MI) (L : ML) : String → MI → ML → Prop := fun E I' L' => (¬ vp_in x1 8 ∧ xIO = E ∧ I = I' ∧ L = L') ∨ (vp_in x1 8 ∧ ¬ vp_in x2 np ∧ xIO = E ∧ I = I' ∧ L = L') ∨ (vp_in x1 8 ∧ vp_in x2 np ∧ ¬ gMR np I x1 x2 ∧ xUO = E ∧ I = I' ∧ L = L') ∨ (vp_in x1 8 ∧ vp_in x2 np ∧ gMR np I x1 x2 ∧ x3 < 1 ∧ xIA = E ∧ I = I' ∧ L = L') ∨ (vp_in x1 8 ∧ vp_in x2 np ∧ gMR np I x1 x2 ∧ ¬ x3 < 1 ∧ x3 ≤ 100000000000 ∧ (gcn (L 1) (L (54 + ne)) 8) = 0 ∧ ¬ ne < 40 ∧ xIS = E ∧ I = I' ∧ L = L') ∨ (vp_in x1 8 ∧ vp_in x2 np ∧ gMR np I x1 x2 ∧ ¬ x3 < 1 ∧ x3 ≤ 100000000000 ∧ ¬ (gcn (L 1) (L (54 + ne)) 8) = 0 ∧ xIS = E ∧ I = I' ∧ L = L') ∨ (vp_in x1 8 ∧ vp_in x2 np ∧ gMR np I x1 x2 ∧ ¬ x3 < 1 ∧ x3 ≤ 100000000000 ∧ (gcn (L 1) (L (54 + ne)) 8) = 0 ∧ ne < 40 ∧ x3 ≤ 10000 ∧ (¬ (∀ k, k < (lc x2.toNatClampNeg) → ¬ gfl (I (96 + 4 * x2.toNatClampNeg)) ((gPW L x3 (I (97 + 4 * x2.toNatClampNeg)) (lc x2.toNatClampNeg) (-1)) 1) ((gPW L x3 (I (97 + 4 * x2.toNatClampNeg)) (lc x2.toNatClampNeg) (-1)) 2) ((gPW L x3 (I (97 + 4 * x2.toNatClampNeg)) (lc x2.toNatClampNeg) (-1)) 7) k)) ∧ xIS = E ∧ I = I' ∧ (gPW L x3 (I (97 + 4 * x2.toNatClampNeg)) (lc x2.toNatClampNeg) (-1)) = L') ∨ (vp_in x1 8 ∧ vp_in x2 np ∧ gMR np I x1 x2 ∧ ¬ x3 < 1 ∧ x3 ≤ 100000000000 ∧ (gcn (L 1) (L (54 + ne)) 8) = 0 ∧ ne < 40 ∧ ¬ x3 ≤ 10000 ∧ ¬ gfq (fun k => I (8 + k) 0) < 6 ∧ xIS = E ∧ I = I' ∧ L = L') ∨ (vp_in x1 8 ∧ vp_in x2 np ∧ gMR np I x1 x2 ∧ ¬ x3 < 1 ∧ ¬ x3 ≤ 100000000000 ∧ xIA = E ∧ I = I' ∧ L = L')
set_option maxRecDepth 100000 in
set_option maxHeartbeats 4000000 in
theorem ct_X3_ask (l : Launch) (D : va_G) (cy : Nat → ClassId) (ad : Nat → Nat) (hJ : gJ ad) (hlf : l.stackTraces = false) (np : Nat) (ne : Nat) (lc : Nat → Nat) (x1 : Int32) (x2 : Int32) (x3 : Int64) (I : MI) (L : ML) (hnp : I 0 3 = nI np) (hnp10 : np ≤ 10) (hne : I 0 6 = nI ne) (hne40 : ne ≤ 40) (hlc : ∀ pp, pp < 10 → I (95 + 4 * pp) 2 = nI (lc pp)) (hlc4 : ∀ pp, pp < 10 → lc pp ≤ 4) (hlc1 : ∀ pp, pp < np → 1 ≤ lc pp) (hac : ∀ pp, pp < 10 → ∀ k, k < lc pp → vp_in (I (96 + 4 * pp) k) 8) : gTi l D cy ad yX3_ask cX3_ask 5 .int (gR 1 5 30) [.ref (ad 0), .int x1, .int x2, .long x3] I L (pq_X3_ask np ne lc x1 x2 x3 I L) (px_X3_ask np ne lc x1 x2 x3 I L) := by
  refine gTi_of hJ (by decide +kernel) kc_X3_ask (Nat.le_of_ble_eq_true rfl) (fun p e s m below meth c A ls C hr ht hP hS hl => ?_)
  have hx := C.hx
  have hb := C.hb
  have hl : lv_has ls 5 [(0, .ref (ad 0)), (1, .int x1), (2, .int x2), (3, .long x3)] := hl
  refine lv_iload_n hx hb dX3_ask_0 rfl (lv_at hl 1 rfl) ?_
  refine gT_callSv (As := [.int x1]) (rest := []) C hP hS hl.1 (ct_X3_requireUser l D cy ad hJ hlf x1 I L) fa_X3_requireUser kl_X3_93 kst_X3_requireUser rfl (by decide) (Nat.le_of_ble_eq_true rfl) (by decide) (ht) (by decide) (fun E9 I9 L9 hx9 => Or.inl (hx9)) dX3_ask_1 rfl (fun I1 L1 H locs hq hP hS => ?_)
  obtain ⟨h1_0, rfl, rfl⟩ := hq
  obtain ⟨e1_0, l1_0⟩ := vp_ix h1_0
  refine lv_aload_n hx hb dX3_ask_4 rfl (lv_at hl 0 rfl) ?_
  refine lv_iload_n hx hb dX3_ask_5 rfl (lv_at hl 2 rfl) ?_
  refine gT_callVv (As := [.int x2]) (rest := []) C hP hS hl.1 (ct_X3_requireProcedure l D cy ad hJ hlf np x2 I L hnp hnp10) fa_X3_requireProcedure kl_X3_72 ki_X3_requireProcedure kse_X3_requireProcedure (by decide) (T := TX3) rfl rfl rfl (by decide) (Nat.le_of_ble_eq_true rfl) (by decide) (ht) (by decide) (fun E9 I9 L9 hx9 => Or.inr (Or.inl (⟨h1_0, hx9⟩))) dX3_ask_6 rfl (fun I6 L6 H locs hq hP hS => ?_)
  obtain ⟨h6_0, rfl, rfl⟩ := hq
  obtain ⟨e6_0, l6_0⟩ := vp_ix h6_0
  refine lv_aload_n hx hb dX3_ask_9 rfl (lv_at hl 0 rfl) ?_
  refine lv_iload_n hx hb dX3_ask_10 rfl (lv_at hl 1 rfl) ?_
  refine lv_iload_n hx hb dX3_ask_11 rfl (lv_at hl 2 rfl) ?_
  refine gT_callVv (As := [.int x1, .int x2]) (rest := []) C hP hS hl.1 (ct_X3_requireMayRun l D cy ad hJ hlf np x1 x2 I L hnp hnp10) fa_X3_requireMayRun kl_X3_123 ki_X3_requireMayRun kse_X3_requireMayRun (by decide) (T := TX3) rfl rfl rfl (by decide) (Nat.le_of_ble_eq_true rfl) (by decide) (ht) (by decide) (fun E9 I9 L9 hx9 => Or.inr (Or.inr (Or.inl (⟨h1_0, h6_0, hx9⟩)))) dX3_ask_12 rfl (fun I12 L12 H locs hq hP hS => ?_)
  obtain ⟨h12_0, rfl, rfl⟩ := hq
  refine lv_lload_n hx hb dX3_ask_15 rfl (lv_at hl 3 rfl) ?_
  refine lv_lconst (v := 1) hx hb dX3_ask_16 (by decide) ?_
  refine W.lcmp hx hb dX3_ask_17 ?_
  refine lv_if_lt (tgt := 29) hx hb dX3_ask_18 (by decide) (fun c18 => ?_) (fun c18 => ?_)
  · have n18 : x3 < 1 := (lg_cmp_lt _ _).mp c18
    exact g_throwS (cls := xIA) C hlf hP hS hl.1 (by decide) kcl_X3_79 kini_IllegalArgumentException ks_128 gat_83 gan_83 gao_83 dX3_ask_29 dX3_ask_32 dX3_ask_33 dX3_ask_35 dX3_ask_38 ht (by decide) (by decide) (by decide) (by decide) (by decide) (Or.inr (Or.inr (Or.inr (Or.inl (⟨h1_0, h6_0, h12_0, n18, rfl, rfl, rfl⟩)))))
  · have n18 : ¬ x3 < 1 := (not_congr (lg_cmp_lt _ _)).mp c18
    refine lv_lload_n hx hb dX3_ask_21 rfl (lv_at hl 3 rfl) ?_
    refine lv_ldc2 (v := 100000000000) hx hb C.hown (C.hts _ kcn_X3_126) dX3_ask_22 ?_
    refine W.lcmp hx hb dX3_ask_25 ?_
    refine lv_if_le (tgt := 39) hx hb dX3_ask_26 (by decide) (fun c26 => ?_) (fun c26 => ?_)
    · have n26 : x3 ≤ 100000000000 := (lg_cmp_le _ _).mp c26
      refine lv_aload_n hx hb dX3_ask_39 rfl (lv_at hl 0 rfl) ?_
      refine gT_callVv (As := []) (rest := []) C hP hS hl.1 (ct_X3_requireBooksTakeRun l D cy ad hJ hlf ne I L hne hne40) fa_X3_requireBooksTakeRun kl_X3_130 ki_X3_requireBooksTakeRun kse_X3_requireBooksTakeRun (by decide) (T := TX3) rfl rfl rfl (by decide) (Nat.le_of_ble_eq_true rfl) (by decide) (ht) (by decide) (fun E9 I9 L9 hx9 => hx9.elim (fun hx9 => Or.inr (Or.inr (Or.inr (Or.inr (Or.inl (⟨h1_0, h6_0, h12_0, n18, n26, hx9⟩)))))) (fun hx9 => Or.inr (Or.inr (Or.inr (Or.inr (Or.inr (Or.inl (⟨h1_0, h6_0, h12_0, n18, n26, hx9⟩)))))))) dX3_ask_40 rfl (fun I40 L40 H locs hq hP hS => ?_)
      obtain ⟨h40_0, h40_1, rfl, rfl⟩ := hq
      refine lv_lload_n hx hb dX3_ask_43 rfl (lv_at hl 3 rfl) ?_
      refine lv_ldc2 (v := 10000) hx hb C.hown (C.hts _ kcn_X3_133) dX3_ask_44 ?_
      refine W.lcmp hx hb dX3_ask_47 ?_
      refine lv_if_le (tgt := 62) hx hb dX3_ask_48 (by decide) (fun c48 => ?_) (fun c48 => ?_)
      · have n48 : x3 ≤ 10000 := (lg_cmp_le _ _).mp c48
        refine lv_aload_n hx hb dX3_ask_62 rfl (lv_at hl 0 rfl) ?_
        refine lv_iload_n hx hb dX3_ask_63 rfl (lv_at hl 2 rfl) ?_
        refine lv_lload_n hx hb dX3_ask_64 rfl (lv_at hl 3 rfl) ?_
        refine lv_iload_n hx hb dX3_ask_65 rfl (lv_at hl 1 rfl) ?_
        refine lv_iconst (v := (-1)) hx hb dX3_ask_66 (by decide) ?_
        refine lv_iconst (v := (-1)) hx hb dX3_ask_67 (by decide) ?_
        refine gT_callVi (As := [.int x2, .long x3, .int x1, .int (-1), .int (-1)]) (rest := []) C hP hS hl.1 (ct_X3_runAndLog l D cy ad hJ hlf x2.toNatClampNeg (lc x2.toNatClampNeg) ne x2 x3 x1 (-1) (-1) I L e6_0 (by omega) (hlc x2.toNatClampNeg (by omega)) (hlc1 x2.toNatClampNeg (by omega)) (hlc4 x2.toNatClampNeg (by omega)) (hac x2.toNatClampNeg (by omega)) hne (by omega)) fa_X3_runAndLog kl_X3_139 ki_X3_runAndLog kse_X3_runAndLog (by decide) (T := TX3) rfl rfl rfl (by decide) (Nat.le_of_ble_eq_true rfl) (by decide) (ht) (by decide) (fun E9 I9 L9 hx9 => Or.inr (Or.inr (Or.inr (Or.inr (Or.inr (Or.inr (Or.inl (⟨h1_0, h6_0, h12_0, n18, n26, h40_0, h40_1, n48, hx9⟩)))))))) dX3_ask_68 rfl (fun r68 I68 L68 H locs hq hP hS => ?_)
        obtain ⟨h68_0, rfl, rfl, rfl⟩ := hq
        exact gT_iret C hr hP hS (by decide) (by decide) dX3_ask_71 (Or.inl (⟨h1_0, h6_0, h12_0, n18, n26, h40_0, h40_1, n48, h68_0, rfl, rfl, rfl⟩))
      · have n48 : ¬ x3 ≤ 10000 := (not_congr (lg_cmp_le _ _)).mp c48
        refine lv_bipush (v := 100) hx hb dX3_ask_51 (by decide) ?_
        refine lv_aload_n hx hb dX3_ask_53 rfl (lv_at hl 0 rfl) ?_
        refine lv_iload_n hx hb dX3_ask_54 rfl (lv_at hl 1 rfl) ?_
        refine lv_iload_n hx hb dX3_ask_55 rfl (lv_at hl 2 rfl) ?_
        refine lv_lload_n hx hb dX3_ask_56 rfl (lv_at hl 3 rfl) ?_
        refine gT_callVi (As := [.int x1, .int x2, .long x3]) (rest := [.int 100]) C hP hS hl.1 (ct_X3_fileRequest l D cy ad hJ hlf x1 x2 x3 I L) fa_X3_fileRequest kl_X3_135 ki_X3_fileRequest kse_X3_fileRequest (by decide) (T := TX3) rfl rfl rfl (by decide) (Nat.le_of_ble_eq_true rfl) (by decide) (ht) (by decide) (fun E9 I9 L9 hx9 => Or.inr (Or.inr (Or.inr (Or.inr (Or.inr (Or.inr (Or.inr (Or.inl (⟨h1_0, h6_0, h12_0, n18, n26, h40_0, h40_1, n48, hx9⟩))))))))) dX3_ask_57 rfl (fun r57 I57 L57 H locs hq hP hS => ?_)
        obtain ⟨h57_0, rfl, rfl, rfl⟩ := hq
        refine lv_iadd hx hb dX3_ask_60 ?_
        exact gT_iret C hr hP hS (by decide) (by decide) dX3_ask_61 (Or.inr (⟨h1_0, h6_0, h12_0, n18, n26, h40_0, h40_1, n48, h57_0, rfl, rfl, rfl⟩))
    · have n26 : ¬ x3 ≤ 100000000000 := (not_congr (lg_cmp_le _ _)).mp c26
      exact g_throwS (cls := xIA) C hlf hP hS hl.1 (by decide) kcl_X3_79 kini_IllegalArgumentException ks_128 gat_83 gan_83 gao_83 dX3_ask_29 dX3_ask_32 dX3_ask_33 dX3_ask_35 dX3_ask_38 ht (by decide) (by decide) (by decide) (by decide) (by decide) (Or.inr (Or.inr (Or.inr (Or.inr (Or.inr (Or.inr (Or.inr (Or.inr (⟨h1_0, h6_0, h12_0, n18, n26, rfl, rfl, rfl⟩)))))))))
def pq_X3_approve (np : Nat) (ne : Nat) (lc : Nat → Nat) (x1 : Int32) (x2 : Int32) (I : MI) (L : ML) : Int32 → MI → ML → Prop := fun r I' L' => (vp_in x1 8 ∧ (vp_in x2 6 ∧ ¬ I (8 + x2.toNatClampNeg) 0 = -1) ∧ (gMR np I x1 (I (8 + x2.toNatClampNeg) 1) ∧ ¬ I (8 + x2.toNatClampNeg) 0 = x1) ∧ gMR np I (I (8 + x2.toNatClampNeg) 0) (I (8 + x2.toNatClampNeg) 1) ∧ (gcn (L 1) (L (54 + ne)) 8) = 0 ∧ ne < 40 ∧ (∀ k, k < (lc ((I (8 + x2.toNatClampNeg) 1).toNatClampNeg)) → ¬ gfl (I (96 + 4 * ((I (8 + x2.toNatClampNeg) 1).toNatClampNeg))) ((gPW L (L (8 + x2.toNatClampNeg) 2) (I (97 + 4 * ((I (8 + x2.toNatClampNeg) 1).toNatClampNeg))) (lc ((I (8 + x2.toNatClampNeg) 1).toNatClampNeg)) (-1)) 1) ((gPW L (L (8 + x2.toNatClampNeg) 2) (I (97 + 4 * ((I (8 + x2.toNatClampNeg) 1).toNatClampNeg))) (lc ((I (8 + x2.toNatClampNeg) 1).toNatClampNeg)) (-1)) 2) ((gPW L (L (8 + x2.toNatClampNeg) 2) (I (97 + 4 * ((I (8 + x2.toNatClampNeg) 1).toNatClampNeg))) (lc ((I (8 + x2.toNatClampNeg) 1).toNatClampNeg)) (-1)) 7) k) ∧ nI ne = r ∧ (sI (sI (sI (sI (sI (sI I (14 + ne) 0 (I (8 + x2.toNatClampNeg) 1)) (14 + ne) 2 (I (8 + x2.toNatClampNeg) 0)) (14 + ne) 3 x1) (14 + ne) 4 (-1)) 0 6 (nI ne + 1)) (8 + x2.toNatClampNeg) 0 (-1)) = I' ∧ (sL (gRL (gcp (gPW L (L (8 + x2.toNatClampNeg) 2) (I (97 + 4 * ((I (8 + x2.toNatClampNeg) 1).toNatClampNeg))) (lc ((I (8 + x2.toNatClampNeg) 1).toNatClampNeg)) (-1)) ne) (I (96 + 4 * ((I (8 + x2.toNatClampNeg) 1).toNatClampNeg))) (54 + (ne + 1)) (lc ((I (8 + x2.toNatClampNeg) 1).toNatClampNeg))) (14 + ne) 1 (L (8 + x2.toNatClampNeg) 2)) = L')
def px_X3_approve (np : Nat) (ne : Nat) (lc : Nat → Nat) (x1 : Int32) (x2 : Int32) (I : MI) (L : ML) : String → MI → ML → Prop := fun E I' L' => (¬ vp_in x1 8 ∧ xIO = E ∧ I = I' ∧ L = L') ∨ (vp_in x1 8 ∧ (¬ (vp_in x2 6 ∧ ¬ I (8 + x2.toNatClampNeg) 0 = -1)) ∧ xIO = E ∧ I = I' ∧ L = L') ∨ (vp_in x1 8 ∧ (vp_in x2 6 ∧ ¬ I (8 + x2.toNatClampNeg) 0 = -1) ∧ (gMR np I x1 (I (8 + x2.toNatClampNeg) 1) ∧ ¬ I (8 + x2.toNatClampNeg) 0 = x1) ∧ ¬ gMR np I (I (8 + x2.toNatClampNeg) 0) (I (8 + x2.toNatClampNeg) 1) ∧ xUO = E ∧ I = I' ∧ L = L') ∨ (vp_in x1 8 ∧ (vp_in x2 6 ∧ ¬ I (8 + x2.toNatClampNeg) 0 = -1) ∧ (gMR np I x1 (I (8 + x2.toNatClampNeg) 1) ∧ ¬ I (8 + x2.toNatClampNeg) 0 = x1) ∧ gMR np I (I (8 + x2.toNatClampNeg) 0) (I (8 + x2.toNatClampNeg) 1) ∧ (gcn (L 1) (L (54 + ne)) 8) = 0 ∧ ¬ ne < 40 ∧ xIS = E ∧ I = I' ∧ L = L') ∨ (vp_in x1 8 ∧ (vp_in x2 6 ∧ ¬ I (8 + x2.toNatClampNeg) 0 = -1) ∧ (gMR np I x1 (I (8 + x2.toNatClampNeg) 1) ∧ ¬ I (8 + x2.toNatClampNeg) 0 = x1) ∧ gMR np I (I (8 + x2.toNatClampNeg) 0) (I (8 + x2.toNatClampNeg) 1) ∧ ¬ (gcn (L 1) (L (54 + ne)) 8) = 0 ∧ xIS = E ∧ I = I' ∧ L = L') ∨ (vp_in x1 8 ∧ (vp_in x2 6 ∧ ¬ I (8 + x2.toNatClampNeg) 0 = -1) ∧ (gMR np I x1 (I (8 + x2.toNatClampNeg) 1) ∧ ¬ I (8 + x2.toNatClampNeg) 0 = x1) ∧ gMR np I (I (8 + x2.toNatClampNeg) 0) (I (8 + x2.toNatClampNeg) 1) ∧ (gcn (L 1) (L (54 + ne)) 8) = 0 ∧ ne < 40 ∧ (¬ (∀ k, k < (lc ((I (8 + x2.toNatClampNeg) 1).toNatClampNeg)) → ¬ gfl (I (96 + 4 * ((I (8 + x2.toNatClampNeg) 1).toNatClampNeg))) ((gPW L (L (8 + x2.toNatClampNeg) 2) (I (97 + 4 * ((I (8 + x2.toNatClampNeg) 1).toNatClampNeg))) (lc ((I (8 + x2.toNatClampNeg) 1).toNatClampNeg)) (-1)) 1) ((gPW L (L (8 + x2.toNatClampNeg) 2) (I (97 + 4 * ((I (8 + x2.toNatClampNeg) 1).toNatClampNeg))) (lc ((I (8 + x2.toNatClampNeg) 1).toNatClampNeg)) (-1)) 2) ((gPW L (L (8 + x2.toNatClampNeg) 2) (I (97 + 4 * ((I (8 + x2.toNatClampNeg) 1).toNatClampNeg))) (lc ((I (8 + x2.toNatClampNeg) 1).toNatClampNeg)) (-1)) 7) k)) ∧ xIS = E ∧ I = I' ∧ (gPW L (L (8 + x2.toNatClampNeg) 2) (I (97 + 4 * ((I (8 + x2.toNatClampNeg) 1).toNatClampNeg))) (lc ((I (8 + x2.toNatClampNeg) 1).toNatClampNeg)) (-1)) = L') ∨ (vp_in x1 8 ∧ (vp_in x2 6 ∧ ¬ I (8 + x2.toNatClampNeg) 0 = -1) ∧ (¬ (gMR np I x1 (I (8 + x2.toNatClampNeg) 1) ∧ ¬ I (8 + x2.toNatClampNeg) 0 = x1)) ∧ xUO = E ∧ I = I' ∧ L = L')
set_option maxRecDepth 100000 in
set_option maxHeartbeats 4000000 in
theorem ct_X3_approve (l : Launch) (D : va_G) (cy : Nat → ClassId) (ad : Nat → Nat) (hJ : gJ ad) (hlf : l.stackTraces = false) (np : Nat) (ne : Nat) (lc : Nat → Nat) (x1 : Int32) (x2 : Int32) (I : MI) (L : ML) (hnp : I 0 3 = nI np) (hnp10 : np ≤ 10) (hne : I 0 6 = nI ne) (hne40 : ne ≤ 40) (hlc : ∀ pp, pp < 10 → I (95 + 4 * pp) 2 = nI (lc pp)) (hlc4 : ∀ pp, pp < 10 → lc pp ≤ 4) (hlc1 : ∀ pp, pp < np → 1 ≤ lc pp) (hac : ∀ pp, pp < 10 → ∀ k, k < lc pp → vp_in (I (96 + 4 * pp) k) 8) : gTi l D cy ad yX3_approve cX3_approve 5 .int (gR 1 5 30) [.ref (ad 0), .int x1, .int x2] I L (pq_X3_approve np ne lc x1 x2 I L) (px_X3_approve np ne lc x1 x2 I L) := by
  refine gTi_of hJ (by decide +kernel) kc_X3_approve (Nat.le_of_ble_eq_true rfl) (fun p e s m below meth c A ls C hr ht hP hS hl => ?_)
  have hx := C.hx
  have hb := C.hb
  have hl : lv_has ls 5 [(0, .ref (ad 0)), (1, .int x1), (2, .int x2)] := hl
  refine lv_iload_n hx hb dX3_approve_0 rfl (lv_at hl 1 rfl) ?_
  refine gT_callSv (As := [.int x1]) (rest := []) C hP hS hl.1 (ct_X3_requireUser l D cy ad hJ hlf x1 I L) fa_X3_requireUser kl_X3_93 kst_X3_requireUser rfl (by decide) (Nat.le_of_ble_eq_true rfl) (by decide) (ht) (by decide) (fun E9 I9 L9 hx9 => Or.inl (hx9)) dX3_approve_1 rfl (fun I1 L1 H locs hq hP hS => ?_)
  obtain ⟨h1_0, rfl, rfl⟩ := hq
  obtain ⟨e1_0, l1_0⟩ := vp_ix h1_0
  refine lv_aload_n hx hb dX3_approve_4 rfl (lv_at hl 0 rfl) ?_
  refine lv_iload_n hx hb dX3_approve_5 rfl (lv_at hl 2 rfl) ?_
  refine gT_callVv (As := [.int x2]) (rest := []) C hP hS hl.1 (ct_X3_requireRequest l D cy ad hJ hlf x2 I L) fa_X3_requireRequest kl_X3_143 ki_X3_requireRequest kse_X3_requireRequest (by decide) (T := TX3) rfl rfl rfl (by decide) (Nat.le_of_ble_eq_true rfl) (by decide) (ht) (by decide) (fun E9 I9 L9 hx9 => Or.inr (Or.inl (⟨h1_0, hx9⟩))) dX3_approve_6 rfl (fun I6 L6 H locs hq hP hS => ?_)
  obtain ⟨h6_0, rfl, rfl⟩ := hq
  obtain ⟨e6_0_1, l6_0_1⟩ := vp_ix h6_0.1
  refine lv_aload_n hx hb dX3_approve_9 rfl (lv_at hl 0 rfl) ?_
  refine g_get (v := .ref (ad 4)) (T := TX3) C hP 0 4 (by decide) rfl rfl inwX3 (by decide) kf_X3_28 rfl dX3_approve_10 ?_
  refine lv_iload_n hx hb dX3_approve_13 rfl (lv_at hl 2 rfl) ?_
  refine g_aldQ C hP x2.toNatClampNeg e6_0_1 (by omega) dX3_approve_14 ?_
  refine lv_astore_n (lv' := [(3, .ref (ad (8 + x2.toNatClampNeg))), (0, .ref (ad 0)), (1, .int x1), (2, .int x2)]) hx hb dX3_approve_15 rfl hl (by decide) rfl (fun ls hl => ?_)
  refine lv_aload_n hx hb dX3_approve_16 rfl (lv_at hl 1 rfl) ?_
  refine lv_iload_n hx hb dX3_approve_17 rfl (lv_at hl 2 rfl) ?_
  refine lv_aload_n hx hb dX3_approve_18 rfl (lv_at hl 0 rfl) ?_
  refine gM_callVi (As := [.int x1, .ref (ad (8 + x2.toNatClampNeg))]) (rest := []) C hP hS hl.1 (ct_X3_mayApprove l D cy ad hJ np x2.toNatClampNeg x1 I L hnp hnp10 (by omega)) fa_X3_mayApprove kl_X3_146 ki_X3_mayApprove kse_X3_mayApprove (by decide) (T := TX3) rfl rfl rfl (by decide) (Nat.le_of_ble_eq_true rfl) (by decide) dX3_approve_19 rfl (fun r19 I19 L19 H locs hq hP hS => ?_)
  rcases hq with ⟨h19_0, rfl, rfl, rfl⟩ | ⟨h19_0, rfl, rfl, rfl⟩
  · obtain ⟨e19_0_1_2_1, l19_0_1_2_1⟩ := vp_ix h19_0.1.2.1
    refine lv_if_ne (tgt := 35) hx hb dX3_approve_22 (by decide) (fun c => ?_) (fun c => absurd c (by decide))
    refine lv_aload_n hx hb dX3_approve_35 rfl (lv_at hl 1 rfl) ?_
    refine lv_aload_n hx hb dX3_approve_36 rfl (lv_at hl 0 rfl) ?_
    refine g_getN (v := .int (I (8 + x2.toNatClampNeg) 0)) (T := TX2) C hP (8 + x2.toNatClampNeg) 0 (by omega) (kd_Q (by omega) _ _) rfl inwX2 (by decide) kn_f152 rfl dX3_approve_37 ?_
    refine lv_aload_n hx hb dX3_approve_40 rfl (lv_at hl 0 rfl) ?_
    refine g_getN (v := .int (I (8 + x2.toNatClampNeg) 1)) (T := TX2) C hP (8 + x2.toNatClampNeg) 1 (by omega) (kd_Q (by omega) _ _) rfl inwX2 (by decide) kn_f155 rfl dX3_approve_41 ?_
    refine gT_callVv (As := [.int (I (8 + x2.toNatClampNeg) 0), .int (I (8 + x2.toNatClampNeg) 1)]) (rest := []) C hP hS hl.1 (ct_X3_requireMayRun l D cy ad hJ hlf np (I (8 + x2.toNatClampNeg) 0) (I (8 + x2.toNatClampNeg) 1) I L hnp hnp10) fa_X3_requireMayRun kl_X3_123 ki_X3_requireMayRun kse_X3_requireMayRun (by decide) (T := TX3) rfl rfl rfl (by decide) (Nat.le_of_ble_eq_true rfl) (by decide) (ht) (by decide) (fun E9 I9 L9 hx9 => Or.inr (Or.inr (Or.inl (⟨h1_0, h6_0, h19_0, hx9⟩)))) dX3_approve_44 rfl (fun I44 L44 H locs hq hP hS => ?_)
    obtain ⟨h44_0, rfl, rfl⟩ := hq
    obtain ⟨e44_0_1, l44_0_1⟩ := vp_ix h44_0.1
    refine lv_aload_n hx hb dX3_approve_47 rfl (lv_at hl 1 rfl) ?_
    refine gT_callVv (As := []) (rest := []) C hP hS hl.1 (ct_X3_requireBooksTakeRun l D cy ad hJ hlf ne I L hne hne40) fa_X3_requireBooksTakeRun kl_X3_130 ki_X3_requireBooksTakeRun kse_X3_requireBooksTakeRun (by decide) (T := TX3) rfl rfl rfl (by decide) (Nat.le_of_ble_eq_true rfl) (by decide) (ht) (by decide) (fun E9 I9 L9 hx9 => hx9.elim (fun hx9 => Or.inr (Or.inr (Or.inr (Or.inl (⟨h1_0, h6_0, h19_0, h44_0, hx9⟩))))) (fun hx9 => Or.inr (Or.inr (Or.inr (Or.inr (Or.inl (⟨h1_0, h6_0, h19_0, h44_0, hx9⟩))))))) dX3_approve_48 rfl (fun I48 L48 H locs hq hP hS => ?_)
    obtain ⟨h48_0, h48_1, rfl, rfl⟩ := hq
    refine lv_aload_n hx hb dX3_approve_51 rfl (lv_at hl 1 rfl) ?_
    refine lv_aload_n hx hb dX3_approve_52 rfl (lv_at hl 0 rfl) ?_
    refine g_getN (v := .int (I (8 + x2.toNatClampNeg) 1)) (T := TX2) C hP (8 + x2.toNatClampNeg) 1 (by omega) (kd_Q (by omega) _ _) rfl inwX2 (by decide) kn_f155 rfl dX3_approve_53 ?_
    refine lv_aload_n hx hb dX3_approve_56 rfl (lv_at hl 0 rfl) ?_
    refine g_getN (v := .long (L (8 + x2.toNatClampNeg) 2)) (T := TX2) C hP (8 + x2.toNatClampNeg) 2 (by omega) (kd_Q (by omega) _ _) rfl inwX2 (by decide) kn_f158 rfl dX3_approve_57 ?_
    refine lv_aload_n hx hb dX3_approve_60 rfl (lv_at hl 0 rfl) ?_
    refine g_getN (v := .int (I (8 + x2.toNatClampNeg) 0)) (T := TX2) C hP (8 + x2.toNatClampNeg) 0 (by omega) (kd_Q (by omega) _ _) rfl inwX2 (by decide) kn_f152 rfl dX3_approve_61 ?_
    refine lv_iload_n hx hb dX3_approve_64 rfl (lv_at hl 2 rfl) ?_
    refine lv_iconst (v := (-1)) hx hb dX3_approve_65 (by decide) ?_
    refine gT_callVi (As := [.int (I (8 + x2.toNatClampNeg) 1), .long (L (8 + x2.toNatClampNeg) 2), .int (I (8 + x2.toNatClampNeg) 0), .int x1, .int (-1)]) (rest := []) C hP hS hl.1 (ct_X3_runAndLog l D cy ad hJ hlf ((I (8 + x2.toNatClampNeg) 1).toNatClampNeg) (lc ((I (8 + x2.toNatClampNeg) 1).toNatClampNeg)) ne (I (8 + x2.toNatClampNeg) 1) (L (8 + x2.toNatClampNeg) 2) (I (8 + x2.toNatClampNeg) 0) x1 (-1) I L e19_0_1_2_1 (by omega) (hlc ((I (8 + x2.toNatClampNeg) 1).toNatClampNeg) (by omega)) (hlc1 ((I (8 + x2.toNatClampNeg) 1).toNatClampNeg) (by omega)) (hlc4 ((I (8 + x2.toNatClampNeg) 1).toNatClampNeg) (by omega)) (hac ((I (8 + x2.toNatClampNeg) 1).toNatClampNeg) (by omega)) hne (by omega)) fa_X3_runAndLog kl_X3_139 ki_X3_runAndLog kse_X3_runAndLog (by decide) (T := TX3) rfl rfl rfl (by decide) (Nat.le_of_ble_eq_true rfl) (by decide) (ht) (by decide) (fun E9 I9 L9 hx9 => Or.inr (Or.inr (Or.inr (Or.inr (Or.inr (Or.inl (⟨h1_0, h6_0, h19_0, h44_0, h48_0, h48_1, hx9⟩))))))) dX3_approve_66 rfl (fun r66 I66 L66 H locs hq hP hS => ?_)
    obtain ⟨h66_0, rfl, rfl, rfl⟩ := hq
    refine lv_istore (lv' := [(4, .int (nI ne)), (3, .ref (ad (8 + x2.toNatClampNeg))), (0, .ref (ad 0)), (1, .int x1), (2, .int x2)]) hx hb dX3_approve_69 hl (by decide) rfl (fun ls hl => ?_)
    refine lv_aload_n hx hb dX3_approve_71 rfl (lv_at hl 1 rfl) ?_
    refine gM_callVNv (As := []) (rest := []) C hP hS hl.1 (ct_X2_clear l D cy ad hJ x2.toNatClampNeg (sI (sI (sI (sI (sI I (14 + ne) 0 (I (8 + x2.toNatClampNeg) 1)) (14 + ne) 2 (I (8 + x2.toNatClampNeg) 0)) (14 + ne) 3 x1) (14 + ne) 4 (-1)) 0 6 (nI ne + 1)) (sL (gRL (gcp (gPW L (L (8 + x2.toNatClampNeg) 2) (I (97 + 4 * ((I (8 + x2.toNatClampNeg) 1).toNatClampNeg))) (lc ((I (8 + x2.toNatClampNeg) 1).toNatClampNeg)) (-1)) ne) (I (96 + 4 * ((I (8 + x2.toNatClampNeg) 1).toNatClampNeg))) (54 + (ne + 1)) (lc ((I (8 + x2.toNatClampNeg) 1).toNatClampNeg))) (14 + ne) 1 (L (8 + x2.toNatClampNeg) 2)) (by omega)) fa_X2_clear kn_m162 ki_X2_clear kse_X2_clear (by omega) (T := TX2) (kd_Q (by omega) _ _) rfl rfl (by decide) (Nat.le_of_ble_eq_true rfl) (by decide) dX3_approve_72 rfl (fun I72 L72 H locs hq hP hS => ?_)
    obtain ⟨rfl, rfl⟩ := hq
    refine lv_iload hx hb dX3_approve_75 (lv_at hl 0 rfl) ?_
    exact gT_iret C hr hP hS (by decide) (by decide) dX3_approve_77 (⟨h1_0, h6_0, h19_0, h44_0, h48_0, h48_1, h66_0, rfl, rfl, rfl⟩)
  · refine lv_if_ne (tgt := 35) hx hb dX3_approve_22 (by decide) (fun c => absurd c (by decide)) (fun c => ?_)
    exact g_throwS (cls := xUO) C hlf hP hS hl.1 (by decide) kcl_X3_108 kini_UnsupportedOperationException ks_150 gat_112 gan_112 gao_112 dX3_approve_25 dX3_approve_28 dX3_approve_29 dX3_approve_31 dX3_approve_34 ht (by decide) (by decide) (by decide) (by decide) (by decide) (Or.inr (Or.inr (Or.inr (Or.inr (Or.inr (Or.inr (⟨h1_0, h6_0, h19_0, rfl, rfl, rfl⟩)))))))
def pq_X3_withdraw (np : Nat) (x1 : Int32) (x2 : Int32) (I : MI) (L : ML) : MI → ML → Prop := fun I' L' => (vp_in x1 8 ∧ (vp_in x2 6 ∧ ¬ I (8 + x2.toNatClampNeg) 0 = -1) ∧ (I (8 + x2.toNatClampNeg) 0) = x1 ∧ (sI I (8 + x2.toNatClampNeg) 0 (-1)) = I' ∧ L = L') ∨ (vp_in x1 8 ∧ (vp_in x2 6 ∧ ¬ I (8 + x2.toNatClampNeg) 0 = -1) ∧ ¬ (I (8 + x2.toNatClampNeg) 0) = x1 ∧ (gMR np I x1 (I (8 + x2.toNatClampNeg) 1) ∧ ¬ I (8 + x2.toNatClampNeg) 0 = x1) ∧ (sI I (8 + x2.toNatClampNeg) 0 (-1)) = I' ∧ L = L')
def px_X3_withdraw (np : Nat) (x1 : Int32) (x2 : Int32) (I : MI) (L : ML) : String → MI → ML → Prop := fun E I' L' => (¬ vp_in x1 8 ∧ xIO = E ∧ I = I' ∧ L = L') ∨ (vp_in x1 8 ∧ (¬ (vp_in x2 6 ∧ ¬ I (8 + x2.toNatClampNeg) 0 = -1)) ∧ xIO = E ∧ I = I' ∧ L = L') ∨ (vp_in x1 8 ∧ (vp_in x2 6 ∧ ¬ I (8 + x2.toNatClampNeg) 0 = -1) ∧ ¬ (I (8 + x2.toNatClampNeg) 0) = x1 ∧ (¬ (gMR np I x1 (I (8 + x2.toNatClampNeg) 1) ∧ ¬ I (8 + x2.toNatClampNeg) 0 = x1)) ∧ xUO = E ∧ I = I' ∧ L = L')
set_option maxRecDepth 100000 in
set_option maxHeartbeats 4000000 in
theorem ct_X3_withdraw (l : Launch) (D : va_G) (cy : Nat → ClassId) (ad : Nat → Nat) (hJ : gJ ad) (hlf : l.stackTraces = false) (np : Nat) (x1 : Int32) (x2 : Int32) (I : MI) (L : ML) (hnp : I 0 3 = nI np) (hnp10 : np ≤ 10) : gTv l D cy ad yX3_withdraw cX3_withdraw 4 (gR 1 3 18) [.ref (ad 0), .int x1, .int x2] I L (pq_X3_withdraw np x1 x2 I L) (px_X3_withdraw np x1 x2 I L) := by
  refine gTv_of hJ (by decide +kernel) kc_X3_withdraw (Nat.le_of_ble_eq_true rfl) (fun p e s m below meth c A ls C hr ht hP hS hl => ?_)
  have hx := C.hx
  have hb := C.hb
  have hl : lv_has ls 4 [(0, .ref (ad 0)), (1, .int x1), (2, .int x2)] := hl
  refine lv_iload_n hx hb dX3_withdraw_0 rfl (lv_at hl 1 rfl) ?_
  refine gT_callSv (As := [.int x1]) (rest := []) C hP hS hl.1 (ct_X3_requireUser l D cy ad hJ hlf x1 I L) fa_X3_requireUser kl_X3_93 kst_X3_requireUser rfl (by decide) (Nat.le_of_ble_eq_true rfl) (by decide) (ht) (by decide) (fun E9 I9 L9 hx9 => Or.inl (hx9)) dX3_withdraw_1 rfl (fun I1 L1 H locs hq hP hS => ?_)
  obtain ⟨h1_0, rfl, rfl⟩ := hq
  obtain ⟨e1_0, l1_0⟩ := vp_ix h1_0
  refine lv_aload_n hx hb dX3_withdraw_4 rfl (lv_at hl 0 rfl) ?_
  refine lv_iload_n hx hb dX3_withdraw_5 rfl (lv_at hl 2 rfl) ?_
  refine gT_callVv (As := [.int x2]) (rest := []) C hP hS hl.1 (ct_X3_requireRequest l D cy ad hJ hlf x2 I L) fa_X3_requireRequest kl_X3_143 ki_X3_requireRequest kse_X3_requireRequest (by decide) (T := TX3) rfl rfl rfl (by decide) (Nat.le_of_ble_eq_true rfl) (by decide) (ht) (by decide) (fun E9 I9 L9 hx9 => Or.inr (Or.inl (⟨h1_0, hx9⟩))) dX3_withdraw_6 rfl (fun I6 L6 H locs hq hP hS => ?_)
  obtain ⟨h6_0, rfl, rfl⟩ := hq
  obtain ⟨e6_0_1, l6_0_1⟩ := vp_ix h6_0.1
  refine lv_aload_n hx hb dX3_withdraw_9 rfl (lv_at hl 0 rfl) ?_
  refine g_get (v := .ref (ad 4)) (T := TX3) C hP 0 4 (by decide) rfl rfl inwX3 (by decide) kf_X3_28 rfl dX3_withdraw_10 ?_
  refine lv_iload_n hx hb dX3_withdraw_13 rfl (lv_at hl 2 rfl) ?_
  refine g_aldQ C hP x2.toNatClampNeg e6_0_1 (by omega) dX3_withdraw_14 ?_
  refine lv_astore_n (lv' := [(3, .ref (ad (8 + x2.toNatClampNeg))), (0, .ref (ad 0)), (1, .int x1), (2, .int x2)]) hx hb dX3_withdraw_15 rfl hl (by decide) rfl (fun ls hl => ?_)
  refine lv_aload_n hx hb dX3_withdraw_16 rfl (lv_at hl 0 rfl) ?_
  refine g_getN (v := .int (I (8 + x2.toNatClampNeg) 0)) (T := TX2) C hP (8 + x2.toNatClampNeg) 0 (by omega) (kd_Q (by omega) _ _) rfl inwX2 (by decide) kn_f152 rfl dX3_withdraw_17 ?_
  refine lv_iload_n hx hb dX3_withdraw_20 rfl (lv_at hl 2 rfl) ?_
  refine lv_icmp_eq (tgt := 43) hx hb dX3_withdraw_21 (by decide) (fun c21 => ?_) (fun c21 => ?_)
  · refine lv_aload_n hx hb dX3_withdraw_43 rfl (lv_at hl 0 rfl) ?_
    refine gM_callVNv (As := []) (rest := []) C hP hS hl.1 (ct_X2_clear l D cy ad hJ x2.toNatClampNeg I L (by omega)) fa_X2_clear kn_m162 ki_X2_clear kse_X2_clear (by omega) (T := TX2) (kd_Q (by omega) _ _) rfl rfl (by decide) (Nat.le_of_ble_eq_true rfl) (by decide) dX3_withdraw_44 rfl (fun I44 L44 H locs hq hP hS => ?_)
    obtain ⟨rfl, rfl⟩ := hq
    exact gT_vret C hr hP hS (by decide) (by decide) dX3_withdraw_47 (Or.inl (⟨h1_0, h6_0, c21, rfl, rfl⟩))
  · refine lv_aload_n hx hb dX3_withdraw_24 rfl (lv_at hl 1 rfl) ?_
    refine lv_iload_n hx hb dX3_withdraw_25 rfl (lv_at hl 2 rfl) ?_
    refine lv_aload_n hx hb dX3_withdraw_26 rfl (lv_at hl 0 rfl) ?_
    refine gM_callVi (As := [.int x1, .ref (ad (8 + x2.toNatClampNeg))]) (rest := []) C hP hS hl.1 (ct_X3_mayApprove l D cy ad hJ np x2.toNatClampNeg x1 I L hnp hnp10 (by omega)) fa_X3_mayApprove kl_X3_146 ki_X3_mayApprove kse_X3_mayApprove (by decide) (T := TX3) rfl rfl rfl (by decide) (Nat.le_of_ble_eq_true rfl) (by decide) dX3_withdraw_27 rfl (fun r27 I27 L27 H locs hq hP hS => ?_)
    rcases hq with ⟨h27_0, rfl, rfl, rfl⟩ | ⟨h27_0, rfl, rfl, rfl⟩
    · obtain ⟨e27_0_1_2_1, l27_0_1_2_1⟩ := vp_ix h27_0.1.2.1
      refine lv_if_ne (tgt := 43) hx hb dX3_withdraw_30 (by decide) (fun c => ?_) (fun c => absurd c (by decide))
      refine lv_aload_n hx hb dX3_withdraw_43 rfl (lv_at hl 0 rfl) ?_
      refine gM_callVNv (As := []) (rest := []) C hP hS hl.1 (ct_X2_clear l D cy ad hJ x2.toNatClampNeg I L (by omega)) fa_X2_clear kn_m162 ki_X2_clear kse_X2_clear (by omega) (T := TX2) (kd_Q (by omega) _ _) rfl rfl (by decide) (Nat.le_of_ble_eq_true rfl) (by decide) dX3_withdraw_44 rfl (fun I44 L44 H locs hq hP hS => ?_)
      obtain ⟨rfl, rfl⟩ := hq
      exact gT_vret C hr hP hS (by decide) (by decide) dX3_withdraw_47 (Or.inr (⟨h1_0, h6_0, c21, h27_0, rfl, rfl⟩))
    · refine lv_if_ne (tgt := 43) hx hb dX3_withdraw_30 (by decide) (fun c => absurd c (by decide)) (fun c => ?_)
      exact g_throwS (cls := xUO) C hlf hP hS hl.1 (by decide) kcl_X3_108 kini_UnsupportedOperationException ks_165 gat_112 gan_112 gao_112 dX3_withdraw_33 dX3_withdraw_36 dX3_withdraw_37 dX3_withdraw_39 dX3_withdraw_42 ht (by decide) (by decide) (by decide) (by decide) (by decide) (Or.inr (Or.inr (⟨h1_0, h6_0, c21, h27_0, rfl, rfl, rfl⟩)))
def pq_X3_reverse (np : Nat) (ne : Nat) (lc : Nat → Nat) (x1 : Int32) (x2 : Int32) (I : MI) (L : ML) : Int32 → MI → ML → Prop := fun r I' L' => (vp_in x1 8 ∧ vp_in x2 ne ∧ gMR np I x1 (I (14 + x2.toNatClampNeg) 0) ∧ ¬ (I (14 + x2.toNatClampNeg) 2) = x1 ∧ (I (14 + x2.toNatClampNeg) 4) = (-1) ∧ (I (14 + x2.toNatClampNeg) 5) = (-1) ∧ (gcn (L 1) (L (54 + ne)) 8) = 0 ∧ ne < 40 ∧ (∀ k, k < (lc ((I (14 + x2.toNatClampNeg) 0).toNatClampNeg)) → ¬ gfl (I (96 + 4 * ((I (14 + x2.toNatClampNeg) 0).toNatClampNeg))) ((gPW L (L (14 + x2.toNatClampNeg) 1) (I (97 + 4 * ((I (14 + x2.toNatClampNeg) 0).toNatClampNeg))) (lc ((I (14 + x2.toNatClampNeg) 0).toNatClampNeg)) x2) 1) ((gPW L (L (14 + x2.toNatClampNeg) 1) (I (97 + 4 * ((I (14 + x2.toNatClampNeg) 0).toNatClampNeg))) (lc ((I (14 + x2.toNatClampNeg) 0).toNatClampNeg)) x2) 2) ((gPW L (L (14 + x2.toNatClampNeg) 1) (I (97 + 4 * ((I (14 + x2.toNatClampNeg) 0).toNatClampNeg))) (lc ((I (14 + x2.toNatClampNeg) 0).toNatClampNeg)) x2) 7) k) ∧ nI ne = r ∧ (sI (sI (sI (sI (sI (sI I (14 + ne) 0 (I (14 + x2.toNatClampNeg) 0)) (14 + ne) 2 x1) (14 + ne) 3 (-1)) (14 + ne) 4 x2) 0 6 (nI ne + 1)) (14 + x2.toNatClampNeg) 5 (nI ne)) = I' ∧ (sL (gRL (gcp (gPW L (L (14 + x2.toNatClampNeg) 1) (I (97 + 4 * ((I (14 + x2.toNatClampNeg) 0).toNatClampNeg))) (lc ((I (14 + x2.toNatClampNeg) 0).toNatClampNeg)) x2) ne) (I (96 + 4 * ((I (14 + x2.toNatClampNeg) 0).toNatClampNeg))) (54 + (ne + 1)) (lc ((I (14 + x2.toNatClampNeg) 0).toNatClampNeg))) (14 + ne) 1 (L (14 + x2.toNatClampNeg) 1)) = L')
def px_X3_reverse (np : Nat) (ne : Nat) (lc : Nat → Nat) (x1 : Int32) (x2 : Int32) (I : MI) (L : ML) : String → MI → ML → Prop := fun E I' L' => (¬ vp_in x1 8 ∧ xIO = E ∧ I = I' ∧ L = L') ∨ (vp_in x1 8 ∧ ¬ vp_in x2 ne ∧ xIO = E ∧ I = I' ∧ L = L') ∨ (vp_in x1 8 ∧ vp_in x2 ne ∧ ¬ gMR np I x1 (I (14 + x2.toNatClampNeg) 0) ∧ xUO = E ∧ I = I' ∧ L = L') ∨ (vp_in x1 8 ∧ vp_in x2 ne ∧ gMR np I x1 (I (14 + x2.toNatClampNeg) 0) ∧ ¬ (I (14 + x2.toNatClampNeg) 2) = x1 ∧ ¬ (I (14 + x2.toNatClampNeg) 4) = (-1) ∧ xIS = E ∧ I = I' ∧ L = L') ∨ (vp_in x1 8 ∧ vp_in x2 ne ∧ gMR np I x1 (I (14 + x2.toNatClampNeg) 0) ∧ ¬ (I (14 + x2.toNatClampNeg) 2) = x1 ∧ (I (14 + x2.toNatClampNeg) 4) = (-1) ∧ (I (14 + x2.toNatClampNeg) 5) = (-1) ∧ (gcn (L 1) (L (54 + ne)) 8) = 0 ∧ ¬ ne < 40 ∧ xIS = E ∧ I = I' ∧ L = L') ∨ (vp_in x1 8 ∧ vp_in x2 ne ∧ gMR np I x1 (I (14 + x2.toNatClampNeg) 0) ∧ ¬ (I (14 + x2.toNatClampNeg) 2) = x1 ∧ (I (14 + x2.toNatClampNeg) 4) = (-1) ∧ (I (14 + x2.toNatClampNeg) 5) = (-1) ∧ ¬ (gcn (L 1) (L (54 + ne)) 8) = 0 ∧ xIS = E ∧ I = I' ∧ L = L') ∨ (vp_in x1 8 ∧ vp_in x2 ne ∧ gMR np I x1 (I (14 + x2.toNatClampNeg) 0) ∧ ¬ (I (14 + x2.toNatClampNeg) 2) = x1 ∧ (I (14 + x2.toNatClampNeg) 4) = (-1) ∧ (I (14 + x2.toNatClampNeg) 5) = (-1) ∧ (gcn (L 1) (L (54 + ne)) 8) = 0 ∧ ne < 40 ∧ (¬ (∀ k, k < (lc ((I (14 + x2.toNatClampNeg) 0).toNatClampNeg)) → ¬ gfl (I (96 + 4 * ((I (14 + x2.toNatClampNeg) 0).toNatClampNeg))) ((gPW L (L (14 + x2.toNatClampNeg) 1) (I (97 + 4 * ((I (14 + x2.toNatClampNeg) 0).toNatClampNeg))) (lc ((I (14 + x2.toNatClampNeg) 0).toNatClampNeg)) x2) 1) ((gPW L (L (14 + x2.toNatClampNeg) 1) (I (97 + 4 * ((I (14 + x2.toNatClampNeg) 0).toNatClampNeg))) (lc ((I (14 + x2.toNatClampNeg) 0).toNatClampNeg)) x2) 2) ((gPW L (L (14 + x2.toNatClampNeg) 1) (I (97 + 4 * ((I (14 + x2.toNatClampNeg) 0).toNatClampNeg))) (lc ((I (14 + x2.toNatClampNeg) 0).toNatClampNeg)) x2) 7) k)) ∧ xIS = E ∧ I = I' ∧ (gPW L (L (14 + x2.toNatClampNeg) 1) (I (97 + 4 * ((I (14 + x2.toNatClampNeg) 0).toNatClampNeg))) (lc ((I (14 + x2.toNatClampNeg) 0).toNatClampNeg)) x2) = L') ∨ (vp_in x1 8 ∧ vp_in x2 ne ∧ gMR np I x1 (I (14 + x2.toNatClampNeg) 0) ∧ ¬ (I (14 + x2.toNatClampNeg) 2) = x1 ∧ (I (14 + x2.toNatClampNeg) 4) = (-1) ∧ ¬ (I (14 + x2.toNatClampNeg) 5) = (-1) ∧ xIS = E ∧ I = I' ∧ L = L') ∨ (vp_in x1 8 ∧ vp_in x2 ne ∧ gMR np I x1 (I (14 + x2.toNatClampNeg) 0) ∧ (I (14 + x2.toNatClampNeg) 2) = x1 ∧ xUO = E ∧ I = I' ∧ L = L')
set_option maxRecDepth 100000 in
set_option maxHeartbeats 4000000 in
theorem ct_X3_reverse (l : Launch) (D : va_G) (cy : Nat → ClassId) (ad : Nat → Nat) (hJ : gJ ad) (hlf : l.stackTraces = false) (np : Nat) (ne : Nat) (lc : Nat → Nat) (x1 : Int32) (x2 : Int32) (I : MI) (L : ML) (hnp : I 0 3 = nI np) (hnp10 : np ≤ 10) (hne : I 0 6 = nI ne) (hne40 : ne ≤ 40) (hlc : ∀ pp, pp < 10 → I (95 + 4 * pp) 2 = nI (lc pp)) (hlc4 : ∀ pp, pp < 10 → lc pp ≤ 4) (hlc1 : ∀ pp, pp < np → 1 ≤ lc pp) (hac : ∀ pp, pp < 10 → ∀ k, k < lc pp → vp_in (I (96 + 4 * pp) k) 8) : gTi l D cy ad yX3_reverse cX3_reverse 5 .int (gR 1 5 30) [.ref (ad 0), .int x1, .int x2] I L (pq_X3_reverse np ne lc x1 x2 I L) (px_X3_reverse np ne lc x1 x2 I L) := by
  refine gTi_of hJ (by decide +kernel) kc_X3_reverse (Nat.le_of_ble_eq_true rfl) (fun p e s m below meth c A ls C hr ht hP hS hl => ?_)
  have hx := C.hx
  have hb := C.hb
  have hl : lv_has ls 5 [(0, .ref (ad 0)), (1, .int x1), (2, .int x2)] := hl
  refine lv_iload_n hx hb dX3_reverse_0 rfl (lv_at hl 1 rfl) ?_
  refine gT_callSv (As := [.int x1]) (rest := []) C hP hS hl.1 (ct_X3_requireUser l D cy ad hJ hlf x1 I L) fa_X3_requireUser kl_X3_93 kst_X3_requireUser rfl (by decide) (Nat.le_of_ble_eq_true rfl) (by decide) (ht) (by decide) (fun E9 I9 L9 hx9 => Or.inl (hx9)) dX3_reverse_1 rfl (fun I1 L1 H locs hq hP hS => ?_)
  obtain ⟨h1_0, rfl, rfl⟩ := hq
  obtain ⟨e1_0, l1_0⟩ := vp_ix h1_0
  refine lv_aload_n hx hb dX3_reverse_4 rfl (lv_at hl 0 rfl) ?_
  refine lv_iload_n hx hb dX3_reverse_5 rfl (lv_at hl 2 rfl) ?_
  refine gT_callVv (As := [.int x2]) (rest := []) C hP hS hl.1 (ct_X3_requireEntry l D cy ad hJ hlf ne x2 I L hne hne40) fa_X3_requireEntry kl_X3_167 ki_X3_requireEntry kse_X3_requireEntry (by decide) (T := TX3) rfl rfl rfl (by decide) (Nat.le_of_ble_eq_true rfl) (by decide) (ht) (by decide) (fun E9 I9 L9 hx9 => Or.inr (Or.inl (⟨h1_0, hx9⟩))) dX3_reverse_6 rfl (fun I6 L6 H locs hq hP hS => ?_)
  obtain ⟨h6_0, rfl, rfl⟩ := hq
  obtain ⟨e6_0, l6_0⟩ := vp_ix h6_0
  refine lv_aload_n hx hb dX3_reverse_9 rfl (lv_at hl 0 rfl) ?_
  refine g_get (v := .ref (ad 5)) (T := TX3) C hP 0 5 (by decide) rfl rfl inwX3 (by decide) kf_X3_34 rfl dX3_reverse_10 ?_
  refine lv_iload_n hx hb dX3_reverse_13 rfl (lv_at hl 2 rfl) ?_
  refine g_aldE C hP x2.toNatClampNeg e6_0 (by omega) dX3_reverse_14 ?_
  refine lv_astore_n (lv' := [(3, .ref (ad (14 + x2.toNatClampNeg))), (0, .ref (ad 0)), (1, .int x1), (2, .int x2)]) hx hb dX3_reverse_15 rfl hl (by decide) rfl (fun ls hl => ?_)
  refine lv_aload_n hx hb dX3_reverse_16 rfl (lv_at hl 1 rfl) ?_
  refine lv_iload_n hx hb dX3_reverse_17 rfl (lv_at hl 2 rfl) ?_
  refine lv_aload_n hx hb dX3_reverse_18 rfl (lv_at hl 0 rfl) ?_
  refine g_getN (v := .int (I (14 + x2.toNatClampNeg) 0)) (T := TX0) C hP (14 + x2.toNatClampNeg) 0 (by omega) (kd_E (by omega) _ _) rfl inwX0 (by decide) kn_f170 rfl dX3_reverse_19 ?_
  refine gT_callVv (As := [.int x1, .int (I (14 + x2.toNatClampNeg) 0)]) (rest := []) C hP hS hl.1 (ct_X3_requireMayRun l D cy ad hJ hlf np x1 (I (14 + x2.toNatClampNeg) 0) I L hnp hnp10) fa_X3_requireMayRun kl_X3_123 ki_X3_requireMayRun kse_X3_requireMayRun (by decide) (T := TX3) rfl rfl rfl (by decide) (Nat.le_of_ble_eq_true rfl) (by decide) (ht) (by decide) (fun E9 I9 L9 hx9 => Or.inr (Or.inr (Or.inl (⟨h1_0, h6_0, hx9⟩)))) dX3_reverse_22 rfl (fun I22 L22 H locs hq hP hS => ?_)
  obtain ⟨h22_0, rfl, rfl⟩ := hq
  obtain ⟨e22_0_2_1, l22_0_2_1⟩ := vp_ix h22_0.2.1
  refine lv_aload_n hx hb dX3_reverse_25 rfl (lv_at hl 0 rfl) ?_
  refine g_getN (v := .int (I (14 + x2.toNatClampNeg) 2)) (T := TX0) C hP (14 + x2.toNatClampNeg) 2 (by omega) (kd_E (by omega) _ _) rfl inwX0 (by decide) kn_f171 rfl dX3_reverse_26 ?_
  refine lv_iload_n hx hb dX3_reverse_29 rfl (lv_at hl 2 rfl) ?_
  refine lv_icmp_ne (tgt := 43) hx hb dX3_reverse_30 (by decide) (fun c30 => ?_) (fun c30 => ?_)
  · refine lv_aload_n hx hb dX3_reverse_43 rfl (lv_at hl 0 rfl) ?_
    refine g_getN (v := .int (I (14 + x2.toNatClampNeg) 4)) (T := TX0) C hP (14 + x2.toNatClampNeg) 4 (by omega) (kd_E (by omega) _ _) rfl inwX0 (by decide) kn_f174 rfl dX3_reverse_44 ?_
    refine lv_iconst (v := (-1)) hx hb dX3_reverse_47 (by decide) ?_
    refine lv_icmp_ne (tgt := 59) hx hb dX3_reverse_48 (by decide) (fun c48 => ?_) (fun c48 => ?_)
    · exact g_throwS (cls := xIS) C hlf hP hS hl.1 (by decide) kcl_X3_61 kini_IllegalStateException ks_180 gat_65 gan_65 gao_65 dX3_reverse_59 dX3_reverse_62 dX3_reverse_63 dX3_reverse_65 dX3_reverse_68 ht (by decide) (by decide) (by decide) (by decide) (by decide) (Or.inr (Or.inr (Or.inr (Or.inl (⟨h1_0, h6_0, h22_0, c30, c48, rfl, rfl, rfl⟩)))))
    · refine lv_aload_n hx hb dX3_reverse_51 rfl (lv_at hl 0 rfl) ?_
      refine g_getN (v := .int (I (14 + x2.toNatClampNeg) 5)) (T := TX0) C hP (14 + x2.toNatClampNeg) 5 (by omega) (kd_E (by omega) _ _) rfl inwX0 (by decide) kn_f177 rfl dX3_reverse_52 ?_
      refine lv_iconst (v := (-1)) hx hb dX3_reverse_55 (by decide) ?_
      refine lv_icmp_eq (tgt := 69) hx hb dX3_reverse_56 (by decide) (fun c56 => ?_) (fun c56 => ?_)
      · refine lv_aload_n hx hb dX3_reverse_69 rfl (lv_at hl 1 rfl) ?_
        refine gT_callVv (As := []) (rest := []) C hP hS hl.1 (ct_X3_requireBooksTakeRun l D cy ad hJ hlf ne I L hne hne40) fa_X3_requireBooksTakeRun kl_X3_130 ki_X3_requireBooksTakeRun kse_X3_requireBooksTakeRun (by decide) (T := TX3) rfl rfl rfl (by decide) (Nat.le_of_ble_eq_true rfl) (by decide) (ht) (by decide) (fun E9 I9 L9 hx9 => hx9.elim (fun hx9 => Or.inr (Or.inr (Or.inr (Or.inr (Or.inl (⟨h1_0, h6_0, h22_0, c30, c48, c56, hx9⟩)))))) (fun hx9 => Or.inr (Or.inr (Or.inr (Or.inr (Or.inr (Or.inl (⟨h1_0, h6_0, h22_0, c30, c48, c56, hx9⟩)))))))) dX3_reverse_70 rfl (fun I70 L70 H locs hq hP hS => ?_)
        obtain ⟨h70_0, h70_1, rfl, rfl⟩ := hq
        refine lv_aload_n hx hb dX3_reverse_73 rfl (lv_at hl 1 rfl) ?_
        refine lv_aload_n hx hb dX3_reverse_74 rfl (lv_at hl 0 rfl) ?_
        refine g_getN (v := .int (I (14 + x2.toNatClampNeg) 0)) (T := TX0) C hP (14 + x2.toNatClampNeg) 0 (by omega) (kd_E (by omega) _ _) rfl inwX0 (by decide) kn_f170 rfl dX3_reverse_75 ?_
        refine lv_aload_n hx hb dX3_reverse_78 rfl (lv_at hl 0 rfl) ?_
        refine g_getN (v := .long (L (14 + x2.toNatClampNeg) 1)) (T := TX0) C hP (14 + x2.toNatClampNeg) 1 (by omega) (kd_E (by omega) _ _) rfl inwX0 (by decide) kn_f182 rfl dX3_reverse_79 ?_
        refine lv_iload_n hx hb dX3_reverse_82 rfl (lv_at hl 2 rfl) ?_
        refine lv_iconst (v := (-1)) hx hb dX3_reverse_83 (by decide) ?_
        refine lv_iload_n hx hb dX3_reverse_84 rfl (lv_at hl 3 rfl) ?_
        refine gT_callVi (As := [.int (I (14 + x2.toNatClampNeg) 0), .long (L (14 + x2.toNatClampNeg) 1), .int x1, .int (-1), .int x2]) (rest := []) C hP hS hl.1 (ct_X3_runAndLog l D cy ad hJ hlf ((I (14 + x2.toNatClampNeg) 0).toNatClampNeg) (lc ((I (14 + x2.toNatClampNeg) 0).toNatClampNeg)) ne (I (14 + x2.toNatClampNeg) 0) (L (14 + x2.toNatClampNeg) 1) x1 (-1) x2 I L e22_0_2_1 (by omega) (hlc ((I (14 + x2.toNatClampNeg) 0).toNatClampNeg) (by omega)) (hlc1 ((I (14 + x2.toNatClampNeg) 0).toNatClampNeg) (by omega)) (hlc4 ((I (14 + x2.toNatClampNeg) 0).toNatClampNeg) (by omega)) (hac ((I (14 + x2.toNatClampNeg) 0).toNatClampNeg) (by omega)) hne (by omega)) fa_X3_runAndLog kl_X3_139 ki_X3_runAndLog kse_X3_runAndLog (by decide) (T := TX3) rfl rfl rfl (by decide) (Nat.le_of_ble_eq_true rfl) (by decide) (ht) (by decide) (fun E9 I9 L9 hx9 => Or.inr (Or.inr (Or.inr (Or.inr (Or.inr (Or.inr (Or.inl (⟨h1_0, h6_0, h22_0, c30, c48, c56, h70_0, h70_1, hx9⟩)))))))) dX3_reverse_85 rfl (fun r85 I85 L85 H locs hq hP hS => ?_)
        obtain ⟨h85_0, rfl, rfl, rfl⟩ := hq
        refine lv_istore (lv' := [(4, .int (nI ne)), (3, .ref (ad (14 + x2.toNatClampNeg))), (0, .ref (ad 0)), (1, .int x1), (2, .int x2)]) hx hb dX3_reverse_88 hl (by decide) rfl (fun ls hl => ?_)
        refine lv_aload_n hx hb dX3_reverse_90 rfl (lv_at hl 1 rfl) ?_
        refine lv_iload hx hb dX3_reverse_91 (lv_at hl 0 rfl) ?_
        refine g_putIN (T := TX0) C hP hS (14 + x2.toNatClampNeg) 5 (by omega) (kd_E (by omega) _ _) rfl inwX0 tyX0 tyX0_ok nmX0 (by decide) kn_f177 rfl rfl (by decide : 5 < 6) ((kd_E (by omega) _ _).trans (by simp only [sI, va_up_self]; rfl)) dX3_reverse_93 (fun H locs hP hS => ?_)
        refine lv_iload hx hb dX3_reverse_96 (lv_at hl 0 rfl) ?_
        exact gT_iret C hr hP hS (by decide) (by decide) dX3_reverse_98 (⟨h1_0, h6_0, h22_0, c30, c48, c56, h70_0, h70_1, h85_0, rfl, rfl, rfl⟩)
      · exact g_throwS (cls := xIS) C hlf hP hS hl.1 (by decide) kcl_X3_61 kini_IllegalStateException ks_180 gat_65 gan_65 gao_65 dX3_reverse_59 dX3_reverse_62 dX3_reverse_63 dX3_reverse_65 dX3_reverse_68 ht (by decide) (by decide) (by decide) (by decide) (by decide) (Or.inr (Or.inr (Or.inr (Or.inr (Or.inr (Or.inr (Or.inr (Or.inl (⟨h1_0, h6_0, h22_0, c30, c48, c56, rfl, rfl, rfl⟩)))))))))
  · exact g_throwS (cls := xUO) C hlf hP hS hl.1 (by decide) kcl_X3_108 kini_UnsupportedOperationException ks_172 gat_112 gan_112 gao_112 dX3_reverse_33 dX3_reverse_36 dX3_reverse_37 dX3_reverse_39 dX3_reverse_42 ht (by decide) (by decide) (by decide) (by decide) (by decide) (Or.inr (Or.inr (Or.inr (Or.inr (Or.inr (Or.inr (Or.inr (Or.inr (⟨h1_0, h6_0, h22_0, c30, rfl, rfl, rfl⟩)))))))))
def pq_X3_tamper (x1 : Int32) (x2 : Int64) (I : MI) (L : ML) : Int64 → MI → ML → Prop := fun r I' L' => (vp_in x1 8 ∧ ¬ x2 < (-1000000) ∧ x2 ≤ 1000000 ∧ ¬ ((L 1 x1.toNatClampNeg) + x2) < (-1000000000000) ∧ ((L 1 x1.toNatClampNeg) + x2) ≤ 1000000000000 ∧ (L 1 x1.toNatClampNeg) + x2 = r ∧ I = I' ∧ (sL L 1 x1.toNatClampNeg ((L 1 x1.toNatClampNeg) + x2)) = L')
def px_X3_tamper (x1 : Int32) (x2 : Int64) (I : MI) (L : ML) : String → MI → ML → Prop := fun E I' L' => (¬ vp_in x1 8 ∧ xIO = E ∧ I = I' ∧ L = L') ∨ (vp_in x1 8 ∧ x2 < (-1000000) ∧ xIA = E ∧ I = I' ∧ L = L') ∨ (vp_in x1 8 ∧ ¬ x2 < (-1000000) ∧ x2 ≤ 1000000 ∧ ((L 1 x1.toNatClampNeg) + x2) < (-1000000000000) ∧ xIS = E ∧ I = I' ∧ L = L') ∨ (vp_in x1 8 ∧ ¬ x2 < (-1000000) ∧ x2 ≤ 1000000 ∧ ¬ ((L 1 x1.toNatClampNeg) + x2) < (-1000000000000) ∧ ¬ ((L 1 x1.toNatClampNeg) + x2) ≤ 1000000000000 ∧ xIS = E ∧ I = I' ∧ L = L') ∨ (vp_in x1 8 ∧ ¬ x2 < (-1000000) ∧ ¬ x2 ≤ 1000000 ∧ xIA = E ∧ I = I' ∧ L = L')
set_option maxRecDepth 100000 in
set_option maxHeartbeats 4000000 in
theorem ct_X3_tamper (l : Launch) (D : va_G) (cy : Nat → ClassId) (ad : Nat → Nat) (hJ : gJ ad) (hlf : l.stackTraces = false) (x1 : Int32) (x2 : Int64) (I : MI) (L : ML) : gTl l D cy ad yX3_tamper cX3_tamper 6 .long (gR 1 2 12) [.ref (ad 0), .int x1, .long x2] I L (pq_X3_tamper x1 x2 I L) (px_X3_tamper x1 x2 I L) := by
  refine gTl_of hJ (by decide +kernel) kc_X3_tamper (Nat.le_of_ble_eq_true rfl) (fun p e s m below meth c A ls C hr ht hP hS hl => ?_)
  have hx := C.hx
  have hb := C.hb
  have hl : lv_has ls 6 [(0, .ref (ad 0)), (1, .int x1), (2, .long x2)] := hl
  refine lv_iload_n hx hb dX3_tamper_0 rfl (lv_at hl 1 rfl) ?_
  refine gT_callSv (As := [.int x1]) (rest := []) C hP hS hl.1 (ct_X3_requireAccount l D cy ad hJ hlf x1 I L) fa_X3_requireAccount kl_X3_54 kst_X3_requireAccount rfl (by decide) (Nat.le_of_ble_eq_true rfl) (by decide) (ht) (by decide) (fun E9 I9 L9 hx9 => Or.inl (hx9)) dX3_tamper_1 rfl (fun I1 L1 H locs hq hP hS => ?_)
  obtain ⟨h1_0, rfl, rfl⟩ := hq
  obtain ⟨e1_0, l1_0⟩ := vp_ix h1_0
  refine lv_lload_n hx hb dX3_tamper_4 rfl (lv_at hl 2 rfl) ?_
  refine lv_ldc2 (v := (-1000000)) hx hb C.hown (C.hts _ kcn_X3_183) dX3_tamper_5 ?_
  refine W.lcmp hx hb dX3_tamper_8 ?_
  refine lv_if_lt (tgt := 20) hx hb dX3_tamper_9 (by decide) (fun c9 => ?_) (fun c9 => ?_)
  · have n9 : x2 < (-1000000) := (lg_cmp_lt _ _).mp c9
    exact g_throwS (cls := xIA) C hlf hP hS hl.1 (by decide) kcl_X3_79 kini_IllegalArgumentException ks_187 gat_83 gan_83 gao_83 dX3_tamper_20 dX3_tamper_23 dX3_tamper_24 dX3_tamper_26 dX3_tamper_29 ht (by decide) (by decide) (by decide) (by decide) (by decide) (Or.inr (Or.inl (⟨h1_0, n9, rfl, rfl, rfl⟩)))
  · have n9 : ¬ x2 < (-1000000) := (not_congr (lg_cmp_lt _ _)).mp c9
    refine lv_lload_n hx hb dX3_tamper_12 rfl (lv_at hl 2 rfl) ?_
    refine lv_ldc2 (v := 1000000) hx hb C.hown (C.hts _ kcn_X3_185) dX3_tamper_13 ?_
    refine W.lcmp hx hb dX3_tamper_16 ?_
    refine lv_if_le (tgt := 30) hx hb dX3_tamper_17 (by decide) (fun c17 => ?_) (fun c17 => ?_)
    · have n17 : x2 ≤ 1000000 := (lg_cmp_le _ _).mp c17
      refine lv_aload_n hx hb dX3_tamper_30 rfl (lv_at hl 0 rfl) ?_
      refine g_get (v := .ref (ad 1)) (T := TX3) C hP 0 0 (by decide) rfl rfl inwX3 (by decide) kf_X3_9 rfl dX3_tamper_31 ?_
      refine lv_iload_n hx hb dX3_tamper_34 rfl (lv_at hl 1 rfl) ?_
      refine g_lald (v := L 1 x1.toNatClampNeg) C hP 1 8 (by decide) (fun _ _ => rfl) x1.toNatClampNeg e1_0 rfl (by omega) (by decide) dX3_tamper_35 ?_
      refine lv_lload_n hx hb dX3_tamper_36 rfl (lv_at hl 2 rfl) ?_
      refine lv_ladd hx hb dX3_tamper_37 ?_
      refine lv_lstore (lv' := [(4, .long ((L 1 x1.toNatClampNeg) + x2)), (0, .ref (ad 0)), (1, .int x1), (2, .long x2)]) hx hb dX3_tamper_38 hl (by decide) rfl (fun ls hl => ?_)
      refine lv_lload hx hb dX3_tamper_40 (lv_at hl 0 rfl) ?_
      refine gM_callSi (As := [.long ((L 1 x1.toNatClampNeg) + x2)]) (rest := []) C hP hS hl.1 (ct_X3_isBeyondLimit l D cy ad hJ ((L 1 x1.toNatClampNeg) + x2) I L) fa_X3_isBeyondLimit kl_X3_117 kst_X3_isBeyondLimit rfl (by decide) (Nat.le_of_ble_eq_true rfl) (by decide) dX3_tamper_42 rfl (fun r42 I42 L42 H locs hq hP hS => ?_)
      rcases hq with ⟨h42_0, rfl, rfl, rfl⟩ | ⟨h42_0, h42_1, rfl, rfl, rfl⟩ | ⟨h42_0, h42_1, rfl, rfl, rfl⟩
      · refine lv_if_eq (tgt := 58) hx hb dX3_tamper_45 (by decide) (fun c => absurd c (by decide)) (fun c => ?_)
        exact g_throwS (cls := xIS) C hlf hP hS hl.1 (by decide) kcl_X3_61 kini_IllegalStateException ks_189 gat_65 gan_65 gao_65 dX3_tamper_48 dX3_tamper_51 dX3_tamper_52 dX3_tamper_54 dX3_tamper_57 ht (by decide) (by decide) (by decide) (by decide) (by decide) (Or.inr (Or.inr (Or.inl (⟨h1_0, n9, n17, h42_0, rfl, rfl, rfl⟩))))
      · refine lv_if_eq (tgt := 58) hx hb dX3_tamper_45 (by decide) (fun c => ?_) (fun c => absurd c (by decide))
        refine lv_aload_n hx hb dX3_tamper_58 rfl (lv_at hl 1 rfl) ?_
        refine g_get (v := .ref (ad 1)) (T := TX3) C hP 0 0 (by decide) rfl rfl inwX3 (by decide) kf_X3_9 rfl dX3_tamper_59 ?_
        refine lv_iload_n hx hb dX3_tamper_62 rfl (lv_at hl 2 rfl) ?_
        refine lv_lload hx hb dX3_tamper_63 (lv_at hl 0 rfl) ?_
        refine g_last C hP hS 1 8 (by decide) (fun _ _ => rfl) x1.toNatClampNeg e1_0 (by omega) (by decide) dX3_tamper_65 (fun H locs hP hS => ?_)
        refine lv_lload hx hb dX3_tamper_66 (lv_at hl 0 rfl) ?_
        exact gT_lret C hr hP hS (by decide) (by decide) dX3_tamper_68 (⟨h1_0, n9, n17, h42_0, h42_1, rfl, rfl, rfl⟩)
      · refine lv_if_eq (tgt := 58) hx hb dX3_tamper_45 (by decide) (fun c => absurd c (by decide)) (fun c => ?_)
        exact g_throwS (cls := xIS) C hlf hP hS hl.1 (by decide) kcl_X3_61 kini_IllegalStateException ks_189 gat_65 gan_65 gao_65 dX3_tamper_48 dX3_tamper_51 dX3_tamper_52 dX3_tamper_54 dX3_tamper_57 ht (by decide) (by decide) (by decide) (by decide) (by decide) (Or.inr (Or.inr (Or.inr (Or.inl (⟨h1_0, n9, n17, h42_0, h42_1, rfl, rfl, rfl⟩)))))
    · have n17 : ¬ x2 ≤ 1000000 := (not_congr (lg_cmp_le _ _)).mp c17
      exact g_throwS (cls := xIA) C hlf hP hS hl.1 (by decide) kcl_X3_79 kini_IllegalArgumentException ks_187 gat_83 gan_83 gao_83 dX3_tamper_20 dX3_tamper_23 dX3_tamper_24 dX3_tamper_26 dX3_tamper_29 ht (by decide) (by decide) (by decide) (by decide) (by decide) (Or.inr (Or.inr (Or.inr (Or.inr (⟨h1_0, n9, n17, rfl, rfl, rfl⟩)))))
def pq_X3_sound (ne : Nat) (I : MI) (L : ML) : Int32 → MI → ML → Prop := fun r I' L' => (¬ (gcn (L 1) (L (54 + ne)) 8) = 0 ∧ (0 : Int32) = r ∧ I = I' ∧ L = L') ∨ ((gcn (L 1) (L (54 + ne)) 8) = 0 ∧ (1 : Int32) = r ∧ I = I' ∧ L = L')
set_option maxRecDepth 100000 in
set_option maxHeartbeats 4000000 in
theorem ct_X3_sound (l : Launch) (D : va_G) (cy : Nat → ClassId) (ad : Nat → Nat) (hJ : gJ ad) (ne : Nat) (I : MI) (L : ML) (hne : I 0 6 = nI ne) (hne40 : ne ≤ 40) : gMi l D cy ad yX3_sound cX3_sound 1 .boolean (gR 1 0 0) [.ref (ad 0)] I L (pq_X3_sound ne I L) := by
  refine gMi_of hJ (by decide +kernel) kc_X3_sound (Nat.le_of_ble_eq_true rfl) (fun p e s m below meth c A ls C hr hP hS hl => ?_)
  have hx := C.hx
  have hb := C.hb
  have hl : lv_has ls 1 [(0, .ref (ad 0))] := hl
  refine lv_aload_n hx hb dX3_sound_0 rfl (lv_at hl 0 rfl) ?_
  refine gM_callVi (As := []) (rest := []) C hP hS hl.1 (ct_X3_countUnsoundBalances l D cy ad hJ ne I L hne hne40) fa_X3_countUnsoundBalances kl_X3_191 ki_X3_countUnsoundBalances kse_X3_countUnsoundBalances (by decide) (T := TX3) rfl rfl rfl (by decide) (Nat.le_of_ble_eq_true rfl) (by decide) dX3_sound_1 rfl (fun r1 I1 L1 H locs hq hP hS => ?_)
  obtain ⟨rfl, rfl, rfl⟩ := hq
  have hg8 := gcn_le (L 1) (L (54 + ne)) 8
  refine lv_if_ne (tgt := 11) hx hb dX3_sound_4 (by decide) (fun c4 => ?_) (fun c4 => ?_)
  · have n4 : ¬ (gcn (L 1) (L (54 + ne)) 8) = 0 := (not_congr (nI_eqqE rfl (show (0 : Int32) = nI 0 from rfl) (by omega) (by omega))).mp c4
    refine lv_iconst (v := 0) hx hb dX3_sound_11 (by decide) ?_
    exact gM_zret C hr narrow_b0 hP hS (by decide) (by decide) dX3_sound_12 (Or.inl (⟨n4, rfl, rfl, rfl⟩))
  · have n4 : (gcn (L 1) (L (54 + ne)) 8) = 0 := (nI_eqqE rfl (show (0 : Int32) = nI 0 from rfl) (by omega) (by omega)).mp c4
    refine lv_iconst (v := 1) hx hb dX3_sound_7 (by decide) ?_
    refine lv_goto (tgt := 12) hx hb dX3_sound_8 (by decide) ?_
    exact gM_zret C hr narrow_b1 hP hS (by decide) (by decide) dX3_sound_12 (Or.inr (⟨n4, rfl, rfl, rfl⟩))
def pq_X3_restore (ne : Nat) (x1 : Int32) (I : MI) (L : ML) : Int32 → MI → ML → Prop := fun r I' L' => vp_in x1 8 ∧ x1 < 2 ∧ nI (gcn (L 1) (L (54 + ne)) 8) = r ∧ I = I' ∧ (gRS L ne 8) = L'
def px_X3_restore (ne : Nat) (x1 : Int32) (I : MI) (L : ML) : String → MI → ML → Prop := fun E I' L' => (¬ vp_in x1 8 ∧ xIO = E ∧ I = I' ∧ L = L') ∨ (vp_in x1 8 ∧ ¬ x1 < 2 ∧ xUO = E ∧ I = I' ∧ L = L')
set_option maxRecDepth 100000 in
set_option maxHeartbeats 4000000 in
theorem ct_X3_restore (l : Launch) (D : va_G) (cy : Nat → ClassId) (ad : Nat → Nat) (hJ : gJ ad) (hlf : l.stackTraces = false) (ne : Nat) (x1 : Int32) (I : MI) (L : ML) (hne : I 0 6 = nI ne) (hne40 : ne ≤ 40) : gTi l D cy ad yX3_restore cX3_restore 4 .int (gR 1 2 12) [.ref (ad 0), .int x1] I L (pq_X3_restore ne x1 I L) (px_X3_restore ne x1 I L) := by
  refine gTi_of hJ (by decide +kernel) kc_X3_restore (Nat.le_of_ble_eq_true rfl) (fun p e s m below meth c A ls C hr ht hP hS hl => ?_)
  have hx := C.hx
  have hb := C.hb
  have hl : lv_has ls 4 [(0, .ref (ad 0)), (1, .int x1)] := hl
  refine lv_iload_n hx hb dX3_restore_0 rfl (lv_at hl 1 rfl) ?_
  refine gT_callSv (As := [.int x1]) (rest := []) C hP hS hl.1 (ct_X3_requireUser l D cy ad hJ hlf x1 I L) fa_X3_requireUser kl_X3_93 kst_X3_requireUser rfl (by decide) (Nat.le_of_ble_eq_true rfl) (by decide) (ht) (by decide) (fun E9 I9 L9 hx9 => Or.inl (hx9)) dX3_restore_1 rfl (fun I1 L1 H locs hq hP hS => ?_)
  obtain ⟨h1_0, rfl, rfl⟩ := hq
  obtain ⟨e1_0, l1_0⟩ := vp_ix h1_0
  refine lv_iload_n hx hb dX3_restore_4 rfl (lv_at hl 1 rfl) ?_
  refine gT_callSv (As := [.int x1]) (rest := []) C hP hS hl.1 (ct_X3_requireOfficer l D cy ad hJ hlf x1 I L) fa_X3_requireOfficer kl_X3_96 kst_X3_requireOfficer rfl (by decide) (Nat.le_of_ble_eq_true rfl) (by decide) (ht) (by decide) (fun E9 I9 L9 hx9 => Or.inr (⟨h1_0, hx9⟩)) dX3_restore_5 rfl (fun I5 L5 H locs hq hP hS => ?_)
  obtain ⟨h5_0, rfl, rfl⟩ := hq
  refine lv_aload_n hx hb dX3_restore_8 rfl (lv_at hl 0 rfl) ?_
  refine gM_callVi (As := []) (rest := []) C hP hS hl.1 (ct_X3_countUnsoundBalances l D cy ad hJ ne I L hne hne40) fa_X3_countUnsoundBalances kl_X3_191 ki_X3_countUnsoundBalances kse_X3_countUnsoundBalances (by decide) (T := TX3) rfl rfl rfl (by decide) (Nat.le_of_ble_eq_true rfl) (by decide) dX3_restore_9 rfl (fun r9 I9 L9 H locs hq hP hS => ?_)
  obtain ⟨rfl, rfl, rfl⟩ := hq
  have hg8 := gcn_le (L 1) (L (54 + ne)) 8
  refine lv_istore_n (lv' := [(2, .int (nI (gcn (L 1) (L (54 + ne)) 8))), (0, .ref (ad 0)), (1, .int x1)]) hx hb dX3_restore_12 rfl hl (by decide) rfl (fun ls hl => ?_)
  refine lv_iconst (v := 0) hx hb dX3_restore_13 (by decide) ?_
  refine lv_istore_n (lv' := [(3, .int 0), (2, .int (nI (gcn (L 1) (L (54 + ne)) 8))), (0, .ref (ad 0)), (1, .int x1)]) hx hb dX3_restore_14 rfl hl (by decide) rfl (fun ls hl => ?_)
  have loop15 : ∀ (N : Nat) (i : Nat) (hi : i ≤ 8) (hfu : 8 < i + N) (H : Heap) (locs : List Loc) (ls : Array Slot), gP D cy ad I (gRS L ne i) H → va_S A s.heap H locs → lv_has ls 4 [(0, .ref (ad 0)), (1, .int x1), (2, .int (nI (gcn (L 1) (L (54 + ne)) 8))), (3, .int (nI i))] → W p l e (gR 1 2 12) s m ([.ref (ad 0), .int x1] : List Value).toArray below meth c H locs 2 12 (vx_MQ below (gQi D cy ad A (pq_X3_restore ne x1 I L)) (gXC D cy ad A (px_X3_restore ne x1 I L)) ([.ref (ad 0), .int x1] : List Value).toArray s 2 12 A) (F0 m 15 ls []) := by
    intro N
    induction N with
    | zero =>
      intro i hi hfu
      exact absurd hfu (by omega)
    | succ N ih =>
      intro i hi hfu H locs ls hP hS hl
      refine lv_iload_n hx hb dX3_restore_15 rfl (lv_at hl 3 rfl) ?_
      refine lv_bipush (v := 8) hx hb dX3_restore_16 (by decide) ?_
      refine lv_icmp_ge (tgt := 44) hx hb dX3_restore_18 (by decide) (fun c18 => ?_) (fun c18 => ?_)
      · have n18 : 8 ≤ i := (nI_leeE (show (8 : Int32) = nI 8 from rfl) rfl (by omega) (by omega)).mp c18
        refine lv_iload_n hx hb dX3_restore_44 rfl (lv_at hl 2 rfl) ?_
        exact gT_iret C hr hP hS (by decide) (by decide) dX3_restore_45 (⟨h1_0, h5_0, rfl, rfl, by rw [show i = 8 by omega]⟩)  -- end 0: h1_0 : vp_in x1 8 ; h5_0 : x1 < 2 ; n18 : 8 ≤ i
      · have n18 : ¬ 8 ≤ i := (not_congr (nI_leeE (show (8 : Int32) = nI 8 from rfl) rfl (by omega) (by omega))).mp c18
        refine lv_aload_n hx hb dX3_restore_21 rfl (lv_at hl 0 rfl) ?_
        refine g_get (v := .ref (ad 1)) (T := TX3) C hP 0 0 (by decide) rfl rfl inwX3 (by decide) kf_X3_9 rfl dX3_restore_22 ?_
        refine lv_iload_n hx hb dX3_restore_25 rfl (lv_at hl 3 rfl) ?_
        refine lv_aload_n hx hb dX3_restore_26 rfl (lv_at hl 0 rfl) ?_
        refine g_get (v := .ref (ad 6)) (T := TX3) C hP 0 7 (by decide) rfl rfl inwX3 (by decide) kf_X3_43 rfl dX3_restore_27 ?_
        refine lv_aload_n hx hb dX3_restore_30 rfl (lv_at hl 0 rfl) ?_
        refine g_get (v := .int (nI ne)) (T := TX3) C hP 0 6 (by decide) rfl rfl inwX3 (by decide) kf_X3_38 (congrArg (fun z => some (Value.int z)) hne) dX3_restore_31 ?_
        refine g_aldT C hP ne rfl (by omega) dX3_restore_34 ?_
        refine lv_iload_n hx hb dX3_restore_35 rfl (lv_at hl 3 rfl) ?_
        refine g_lald (v := (gRS L ne i) (54 + ne) i) C hP (54 + ne) 8 (by omega) (kd_T (by omega)) i rfl rfl (by omega) (by decide) dX3_restore_36 ?_
        refine g_last C hP hS 1 8 (by decide) (fun _ _ => rfl) i rfl (by omega) (by decide) dX3_restore_37 (fun H locs hP hS => ?_)
        refine lv_iinc (v := nI (i + 1)) (lv' := [(3, .int (nI (i + 1))), (0, .ref (ad 0)), (1, .int x1), (2, .int (nI (gcn (L 1) (L (54 + ne)) 8)))]) hx hb dX3_restore_38 hl (k := 3) rfl (nI_1 _) (by decide) rfl (fun ls hl => ?_)
        refine lv_goto (tgt := 15) hx hb dX3_restore_41 (by decide) ?_
        rw [gRS_s _ _ _ (by omega)] at hP
        exact ih (i + 1) (by omega) (by omega) _ _ _ hP hS (lv_sub hl [1, 2, 3, 0] rfl)
  exact loop15 9 0 (Nat.zero_le _) (by omega) _ _ _ (by rw [gRS_0]; exact hP) hS (lv_sub hl [2, 3, 1, 0] rfl)
def pq_X3_balance (x1 : Int32) (I : MI) (L : ML) : Int64 → MI → ML → Prop := fun r I' L' => (vp_in x1 8 ∧ L 1 x1.toNatClampNeg = r ∧ I = I' ∧ L = L')
def px_X3_balance (x1 : Int32) (I : MI) (L : ML) : String → MI → ML → Prop := fun E I' L' => (¬ vp_in x1 8 ∧ xIO = E ∧ I = I' ∧ L = L')
set_option maxRecDepth 100000 in
set_option maxHeartbeats 4000000 in
theorem ct_X3_balance (l : Launch) (D : va_G) (cy : Nat → ClassId) (ad : Nat → Nat) (hJ : gJ ad) (hlf : l.stackTraces = false) (x1 : Int32) (I : MI) (L : ML) : gTl l D cy ad yX3_balance cX3_balance 2 .long (gR 1 1 6) [.ref (ad 0), .int x1] I L (pq_X3_balance x1 I L) (px_X3_balance x1 I L) := by
  refine gTl_of hJ (by decide +kernel) kc_X3_balance (Nat.le_of_ble_eq_true rfl) (fun p e s m below meth c A ls C hr ht hP hS hl => ?_)
  have hx := C.hx
  have hb := C.hb
  have hl : lv_has ls 2 [(0, .ref (ad 0)), (1, .int x1)] := hl
  refine lv_iload_n hx hb dX3_balance_0 rfl (lv_at hl 1 rfl) ?_
  refine gT_callSv (As := [.int x1]) (rest := []) C hP hS hl.1 (ct_X3_requireAccount l D cy ad hJ hlf x1 I L) fa_X3_requireAccount kl_X3_54 kst_X3_requireAccount rfl (by decide) (Nat.le_of_ble_eq_true rfl) (by decide) (ht) (by decide) (fun E9 I9 L9 hx9 => hx9) dX3_balance_1 rfl (fun I1 L1 H locs hq hP hS => ?_)
  obtain ⟨h1_0, rfl, rfl⟩ := hq
  obtain ⟨e1_0, l1_0⟩ := vp_ix h1_0
  refine lv_aload_n hx hb dX3_balance_4 rfl (lv_at hl 0 rfl) ?_
  refine g_get (v := .ref (ad 1)) (T := TX3) C hP 0 0 (by decide) rfl rfl inwX3 (by decide) kf_X3_9 rfl dX3_balance_5 ?_
  refine lv_iload_n hx hb dX3_balance_8 rfl (lv_at hl 1 rfl) ?_
  refine g_lald (v := L 1 x1.toNatClampNeg) C hP 1 8 (by decide) (fun _ _ => rfl) x1.toNatClampNeg e1_0 rfl (by omega) (by decide) dX3_balance_9 ?_
  exact gT_lret C hr hP hS (by decide) (by decide) dX3_balance_10 (⟨h1_0, rfl, rfl, rfl⟩)
def pq_X3_balanceAt (ne : Nat) (x1 : Int32) (x2 : Int32) (I : MI) (L : ML) : Int64 → MI → ML → Prop := fun r I' L' => (vp_in x1 8 ∧ ¬ x2 < 0 ∧ x2 ≤ (nI ne) ∧ L (54 + x2.toNatClampNeg) x1.toNatClampNeg = r ∧ I = I' ∧ L = L')
def px_X3_balanceAt (ne : Nat) (x1 : Int32) (x2 : Int32) (I : MI) (L : ML) : String → MI → ML → Prop := fun E I' L' => (¬ vp_in x1 8 ∧ xIO = E ∧ I = I' ∧ L = L') ∨ (vp_in x1 8 ∧ x2 < 0 ∧ xIO = E ∧ I = I' ∧ L = L') ∨ (vp_in x1 8 ∧ ¬ x2 < 0 ∧ ¬ x2 ≤ (nI ne) ∧ xIO = E ∧ I = I' ∧ L = L')
set_option maxRecDepth 100000 in
set_option maxHeartbeats 4000000 in
theorem ct_X3_balanceAt (l : Launch) (D : va_G) (cy : Nat → ClassId) (ad : Nat → Nat) (hJ : gJ ad) (hlf : l.stackTraces = false) (ne : Nat) (x1 : Int32) (x2 : Int32) (I : MI) (L : ML) (hne : I 0 6 = nI ne) (hne40 : ne ≤ 40) : gTl l D cy ad yX3_balanceAt cX3_balanceAt 3 .long (gR 1 2 12) [.ref (ad 0), .int x1, .int x2] I L (pq_X3_balanceAt ne x1 x2 I L) (px_X3_balanceAt ne x1 x2 I L) := by
  refine gTl_of hJ (by decide +kernel) kc_X3_balanceAt (Nat.le_of_ble_eq_true rfl) (fun p e s m below meth c A ls C hr ht hP hS hl => ?_)
  have hx := C.hx
  have hb := C.hb
  have hl : lv_has ls 3 [(0, .ref (ad 0)), (1, .int x1), (2, .int x2)] := hl
  refine lv_iload_n hx hb dX3_balanceAt_0 rfl (lv_at hl 1 rfl) ?_
  refine gT_callSv (As := [.int x1]) (rest := []) C hP hS hl.1 (ct_X3_requireAccount l D cy ad hJ hlf x1 I L) fa_X3_requireAccount kl_X3_54 kst_X3_requireAccount rfl (by decide) (Nat.le_of_ble_eq_true rfl) (by decide) (ht) (by decide) (fun E9 I9 L9 hx9 => Or.inl (hx9)) dX3_balanceAt_1 rfl (fun I1 L1 H locs hq hP hS => ?_)
  obtain ⟨h1_0, rfl, rfl⟩ := hq
  obtain ⟨e1_0, l1_0⟩ := vp_ix h1_0
  refine lv_iload_n hx hb dX3_balanceAt_4 rfl (lv_at hl 2 rfl) ?_
  refine lv_if_lt (tgt := 16) hx hb dX3_balanceAt_5 (by decide) (fun c5 => ?_) (fun c5 => ?_)
  · exact g_throwS (cls := xIO) C hlf hP hS hl.1 (by decide) kcl_X3_194 kini_IndexOutOfBoundsException ks_196 gat_198 gan_198 gao_198 dX3_balanceAt_16 dX3_balanceAt_19 dX3_balanceAt_20 dX3_balanceAt_22 dX3_balanceAt_25 ht (by decide) (by decide) (by decide) (by decide) (by decide) (Or.inr (Or.inl (⟨h1_0, c5, rfl, rfl, rfl⟩)))
  · refine lv_iload_n hx hb dX3_balanceAt_8 rfl (lv_at hl 2 rfl) ?_
    refine lv_aload_n hx hb dX3_balanceAt_9 rfl (lv_at hl 0 rfl) ?_
    refine g_get (v := .int (nI ne)) (T := TX3) C hP 0 6 (by decide) rfl rfl inwX3 (by decide) kf_X3_38 (congrArg (fun z => some (Value.int z)) hne) dX3_balanceAt_10 ?_
    refine lv_icmp_le (tgt := 26) hx hb dX3_balanceAt_13 (by decide) (fun c13 => ?_) (fun c13 => ?_)
    · have v26 : vp_in x2 (ne + 1) := vpA4 c5 c13 (by rw [nI_toInt (by omega)]; rfl)
      obtain ⟨e26, l26⟩ := vp_ix v26
      refine lv_aload_n hx hb dX3_balanceAt_26 rfl (lv_at hl 0 rfl) ?_
      refine g_get (v := .ref (ad 6)) (T := TX3) C hP 0 7 (by decide) rfl rfl inwX3 (by decide) kf_X3_43 rfl dX3_balanceAt_27 ?_
      refine lv_iload_n hx hb dX3_balanceAt_30 rfl (lv_at hl 2 rfl) ?_
      refine g_aldT C hP x2.toNatClampNeg e26 (by omega) dX3_balanceAt_31 ?_
      refine lv_iload_n hx hb dX3_balanceAt_32 rfl (lv_at hl 1 rfl) ?_
      refine g_lald (v := L (54 + x2.toNatClampNeg) x1.toNatClampNeg) C hP (54 + x2.toNatClampNeg) 8 (by omega) (kd_T (by omega)) x1.toNatClampNeg e1_0 rfl (by omega) (by decide) dX3_balanceAt_33 ?_
      exact gT_lret C hr hP hS (by decide) (by decide) dX3_balanceAt_34 (⟨h1_0, c5, c13, rfl, rfl, rfl⟩)
    · exact g_throwS (cls := xIO) C hlf hP hS hl.1 (by decide) kcl_X3_194 kini_IndexOutOfBoundsException ks_196 gat_198 gan_198 gao_198 dX3_balanceAt_16 dX3_balanceAt_19 dX3_balanceAt_20 dX3_balanceAt_22 dX3_balanceAt_25 ht (by decide) (by decide) (by decide) (by decide) (by decide) (Or.inr (Or.inr (⟨h1_0, c5, c13, rfl, rfl, rfl⟩)))
def pq_X3_entries (ne : Nat) (I : MI) (L : ML) : Int32 → MI → ML → Prop := fun r I' L' => (nI ne = r ∧ I = I' ∧ L = L')
set_option maxRecDepth 100000 in
set_option maxHeartbeats 4000000 in
theorem ct_X3_entries (l : Launch) (D : va_G) (cy : Nat → ClassId) (ad : Nat → Nat) (hJ : gJ ad) (ne : Nat) (I : MI) (L : ML) (hne : I 0 6 = nI ne) (hne40 : ne ≤ 40) : gMi l D cy ad yX3_entries cX3_entries 1 .int (gR 1 0 0) [.ref (ad 0)] I L (pq_X3_entries ne I L) := by
  refine gMi_of hJ (by decide +kernel) kc_X3_entries (Nat.le_of_ble_eq_true rfl) (fun p e s m below meth c A ls C hr hP hS hl => ?_)
  have hx := C.hx
  have hb := C.hb
  have hl : lv_has ls 1 [(0, .ref (ad 0))] := hl
  refine lv_aload_n hx hb dX3_entries_0 rfl (lv_at hl 0 rfl) ?_
  refine g_get (v := .int (nI ne)) (T := TX3) C hP 0 6 (by decide) rfl rfl inwX3 (by decide) kf_X3_38 (congrArg (fun z => some (Value.int z)) hne) dX3_entries_1 ?_
  exact gM_iret C hr hP hS (by decide) (by decide) dX3_entries_4 (⟨rfl, rfl, rfl⟩)
def pq_X3_entry (ne : Nat) (x1 : Int32) (x2 : Int32) (I : MI) (L : ML) : Int32 → MI → ML → Prop := fun r I' L' => (vp_in x1 ne ∧ x2 = 0 ∧ I (14 + x1.toNatClampNeg) 0 = r ∧ I = I' ∧ L = L') ∨ (vp_in x1 ne ∧ ¬ x2 = 0 ∧ x2 = 1 ∧ I (14 + x1.toNatClampNeg) 2 = r ∧ I = I' ∧ L = L') ∨ (vp_in x1 ne ∧ ¬ x2 = 0 ∧ ¬ x2 = 1 ∧ x2 = 2 ∧ I (14 + x1.toNatClampNeg) 3 = r ∧ I = I' ∧ L = L') ∨ (vp_in x1 ne ∧ ¬ x2 = 0 ∧ ¬ x2 = 1 ∧ ¬ x2 = 2 ∧ x2 = 3 ∧ I (14 + x1.toNatClampNeg) 4 = r ∧ I = I' ∧ L = L') ∨ (vp_in x1 ne ∧ ¬ x2 = 0 ∧ ¬ x2 = 1 ∧ ¬ x2 = 2 ∧ ¬ x2 = 3 ∧ x2 = 4 ∧ I (14 + x1.toNatClampNeg) 5 = r ∧ I = I' ∧ L = L')
def px_X3_entry (ne : Nat) (x1 : Int32) (x2 : Int32) (I : MI) (L : ML) : String → MI → ML → Prop := fun E I' L' => (¬ vp_in x1 ne ∧ xIO = E ∧ I = I' ∧ L = L') ∨ (vp_in x1 ne ∧ ¬ x2 = 0 ∧ ¬ x2 = 1 ∧ ¬ x2 = 2 ∧ ¬ x2 = 3 ∧ ¬ x2 = 4 ∧ xIO = E ∧ I = I' ∧ L = L')
set_option maxRecDepth 100000 in
set_option maxHeartbeats 4000000 in
theorem ct_X3_entry (l : Launch) (D : va_G) (cy : Nat → ClassId) (ad : Nat → Nat) (hJ : gJ ad) (hlf : l.stackTraces = false) (ne : Nat) (x1 : Int32) (x2 : Int32) (I : MI) (L : ML) (hne : I 0 6 = nI ne) (hne40 : ne ≤ 40) : gTi l D cy ad yX3_entry cX3_entry 4 .int (gR 1 2 12) [.ref (ad 0), .int x1, .int x2] I L (pq_X3_entry ne x1 x2 I L) (px_X3_entry ne x1 x2 I L) := by
  refine gTi_of hJ (by decide +kernel) kc_X3_entry (Nat.le_of_ble_eq_true rfl) (fun p e s m below meth c A ls C hr ht hP hS hl => ?_)
  have hx := C.hx
  have hb := C.hb
  have hl : lv_has ls 4 [(0, .ref (ad 0)), (1, .int x1), (2, .int x2)] := hl
  refine lv_aload_n hx hb dX3_entry_0 rfl (lv_at hl 0 rfl) ?_
  refine lv_iload_n hx hb dX3_entry_1 rfl (lv_at hl 1 rfl) ?_
  refine gT_callVv (As := [.int x1]) (rest := []) C hP hS hl.1 (ct_X3_requireEntry l D cy ad hJ hlf ne x1 I L hne hne40) fa_X3_requireEntry kl_X3_167 ki_X3_requireEntry kse_X3_requireEntry (by decide) (T := TX3) rfl rfl rfl (by decide) (Nat.le_of_ble_eq_true rfl) (by decide) (ht) (by decide) (fun E9 I9 L9 hx9 => Or.inl (hx9)) dX3_entry_2 rfl (fun I2 L2 H locs hq hP hS => ?_)
  obtain ⟨h2_0, rfl, rfl⟩ := hq
  obtain ⟨e2_0, l2_0⟩ := vp_ix h2_0
  refine lv_aload_n hx hb dX3_entry_5 rfl (lv_at hl 0 rfl) ?_
  refine g_get (v := .ref (ad 5)) (T := TX3) C hP 0 5 (by decide) rfl rfl inwX3 (by decide) kf_X3_34 rfl dX3_entry_6 ?_
  refine lv_iload_n hx hb dX3_entry_9 rfl (lv_at hl 1 rfl) ?_
  refine g_aldE C hP x1.toNatClampNeg e2_0 (by omega) dX3_entry_10 ?_
  refine lv_astore_n (lv' := [(3, .ref (ad (14 + x1.toNatClampNeg))), (0, .ref (ad 0)), (1, .int x1), (2, .int x2)]) hx hb dX3_entry_11 rfl hl (by decide) rfl (fun ls hl => ?_)
  refine lv_iload_n hx hb dX3_entry_12 rfl (lv_at hl 3 rfl) ?_
  by_cases t13_0 : x2 = 0
  · have z13 : x2.toInt = 0 := by rw [t13_0]; rfl
    refine lv_tableIn (tgt := 48) hx hb dX3_entry_13 (by omega) (by omega) (by rw [z13]; rfl) (by decide) ?_
    refine lv_aload_n hx hb dX3_entry_48 rfl (lv_at hl 0 rfl) ?_
    refine g_getN (v := .int (I (14 + x1.toNatClampNeg) 0)) (T := TX0) C hP (14 + x1.toNatClampNeg) 0 (by omega) (kd_E (by omega) _ _) rfl inwX0 (by decide) kn_f170 rfl dX3_entry_49 ?_
    exact gT_iret C hr hP hS (by decide) (by decide) dX3_entry_52 (Or.inl (⟨h2_0, t13_0, rfl, rfl, rfl⟩))
  by_cases t13_1 : x2 = 1
  · have z13 : x2.toInt = 1 := by rw [t13_1]; rfl
    refine lv_tableIn (tgt := 53) hx hb dX3_entry_13 (by omega) (by omega) (by rw [z13]; rfl) (by decide) ?_
    refine lv_aload_n hx hb dX3_entry_53 rfl (lv_at hl 0 rfl) ?_
    refine g_getN (v := .int (I (14 + x1.toNatClampNeg) 2)) (T := TX0) C hP (14 + x1.toNatClampNeg) 2 (by omega) (kd_E (by omega) _ _) rfl inwX0 (by decide) kn_f171 rfl dX3_entry_54 ?_
    exact gT_iret C hr hP hS (by decide) (by decide) dX3_entry_57 (Or.inr (Or.inl (⟨h2_0, t13_0, t13_1, rfl, rfl, rfl⟩)))
  by_cases t13_2 : x2 = 2
  · have z13 : x2.toInt = 2 := by rw [t13_2]; rfl
    refine lv_tableIn (tgt := 58) hx hb dX3_entry_13 (by omega) (by omega) (by rw [z13]; rfl) (by decide) ?_
    refine lv_aload_n hx hb dX3_entry_58 rfl (lv_at hl 0 rfl) ?_
    refine g_getN (v := .int (I (14 + x1.toNatClampNeg) 3)) (T := TX0) C hP (14 + x1.toNatClampNeg) 3 (by omega) (kd_E (by omega) _ _) rfl inwX0 (by decide) kn_f199 rfl dX3_entry_59 ?_
    exact gT_iret C hr hP hS (by decide) (by decide) dX3_entry_62 (Or.inr (Or.inr (Or.inl (⟨h2_0, t13_0, t13_1, t13_2, rfl, rfl, rfl⟩))))
  by_cases t13_3 : x2 = 3
  · have z13 : x2.toInt = 3 := by rw [t13_3]; rfl
    refine lv_tableIn (tgt := 63) hx hb dX3_entry_13 (by omega) (by omega) (by rw [z13]; rfl) (by decide) ?_
    refine lv_aload_n hx hb dX3_entry_63 rfl (lv_at hl 0 rfl) ?_
    refine g_getN (v := .int (I (14 + x1.toNatClampNeg) 4)) (T := TX0) C hP (14 + x1.toNatClampNeg) 4 (by omega) (kd_E (by omega) _ _) rfl inwX0 (by decide) kn_f174 rfl dX3_entry_64 ?_
    exact gT_iret C hr hP hS (by decide) (by decide) dX3_entry_67 (Or.inr (Or.inr (Or.inr (Or.inl (⟨h2_0, t13_0, t13_1, t13_2, t13_3, rfl, rfl, rfl⟩)))))
  by_cases t13_4 : x2 = 4
  · have z13 : x2.toInt = 4 := by rw [t13_4]; rfl
    refine lv_tableIn (tgt := 68) hx hb dX3_entry_13 (by omega) (by omega) (by rw [z13]; rfl) (by decide) ?_
    refine lv_aload_n hx hb dX3_entry_68 rfl (lv_at hl 0 rfl) ?_
    refine g_getN (v := .int (I (14 + x1.toNatClampNeg) 5)) (T := TX0) C hP (14 + x1.toNatClampNeg) 5 (by omega) (kd_E (by omega) _ _) rfl inwX0 (by decide) kn_f177 rfl dX3_entry_69 ?_
    exact gT_iret C hr hP hS (by decide) (by decide) dX3_entry_72 (Or.inr (Or.inr (Or.inr (Or.inr (⟨h2_0, t13_0, t13_1, t13_2, t13_3, t13_4, rfl, rfl, rfl⟩)))))
  have y13_0 : x2.toInt ≠ 0 := fun z => t13_0 (Int32.toInt_inj.mp (z.trans rfl))
  have y13_1 : x2.toInt ≠ 1 := fun z => t13_1 (Int32.toInt_inj.mp (z.trans rfl))
  have y13_2 : x2.toInt ≠ 2 := fun z => t13_2 (Int32.toInt_inj.mp (z.trans rfl))
  have y13_3 : x2.toInt ≠ 3 := fun z => t13_3 (Int32.toInt_inj.mp (z.trans rfl))
  have y13_4 : x2.toInt ≠ 4 := fun z => t13_4 (Int32.toInt_inj.mp (z.trans rfl))
  refine lv_tableOut (tgt := 73) hx hb dX3_entry_13 (by omega) (by decide) ?_
  exact g_throwS (cls := xIO) C hlf hP hS hl.1 (by decide) kcl_X3_194 kini_IndexOutOfBoundsException ks_202 gat_198 gan_198 gao_198 dX3_entry_73 dX3_entry_76 dX3_entry_77 dX3_entry_79 dX3_entry_82 ht (by decide) (by decide) (by decide) (by decide) (by decide) (Or.inr (⟨h2_0, t13_0, t13_1, t13_2, t13_3, t13_4, rfl, rfl, rfl⟩))
def pq_X3_amount (ne : Nat) (x1 : Int32) (I : MI) (L : ML) : Int64 → MI → ML → Prop := fun r I' L' => (vp_in x1 ne ∧ L (14 + x1.toNatClampNeg) 1 = r ∧ I = I' ∧ L = L')
def px_X3_amount (ne : Nat) (x1 : Int32) (I : MI) (L : ML) : String → MI → ML → Prop := fun E I' L' => (¬ vp_in x1 ne ∧ xIO = E ∧ I = I' ∧ L = L')
set_option maxRecDepth 100000 in
set_option maxHeartbeats 4000000 in
theorem ct_X3_amount (l : Launch) (D : va_G) (cy : Nat → ClassId) (ad : Nat → Nat) (hJ : gJ ad) (hlf : l.stackTraces = false) (ne : Nat) (x1 : Int32) (I : MI) (L : ML) (hne : I 0 6 = nI ne) (hne40 : ne ≤ 40) : gTl l D cy ad yX3_amount cX3_amount 2 .long (gR 1 1 6) [.ref (ad 0), .int x1] I L (pq_X3_amount ne x1 I L) (px_X3_amount ne x1 I L) := by
  refine gTl_of hJ (by decide +kernel) kc_X3_amount (Nat.le_of_ble_eq_true rfl) (fun p e s m below meth c A ls C hr ht hP hS hl => ?_)
  have hx := C.hx
  have hb := C.hb
  have hl : lv_has ls 2 [(0, .ref (ad 0)), (1, .int x1)] := hl
  refine lv_aload_n hx hb dX3_amount_0 rfl (lv_at hl 0 rfl) ?_
  refine lv_iload_n hx hb dX3_amount_1 rfl (lv_at hl 1 rfl) ?_
  refine gT_callVv (As := [.int x1]) (rest := []) C hP hS hl.1 (ct_X3_requireEntry l D cy ad hJ hlf ne x1 I L hne hne40) fa_X3_requireEntry kl_X3_167 ki_X3_requireEntry kse_X3_requireEntry (by decide) (T := TX3) rfl rfl rfl (by decide) (Nat.le_of_ble_eq_true rfl) (by decide) (ht) (by decide) (fun E9 I9 L9 hx9 => hx9) dX3_amount_2 rfl (fun I2 L2 H locs hq hP hS => ?_)
  obtain ⟨h2_0, rfl, rfl⟩ := hq
  obtain ⟨e2_0, l2_0⟩ := vp_ix h2_0
  refine lv_aload_n hx hb dX3_amount_5 rfl (lv_at hl 0 rfl) ?_
  refine g_get (v := .ref (ad 5)) (T := TX3) C hP 0 5 (by decide) rfl rfl inwX3 (by decide) kf_X3_34 rfl dX3_amount_6 ?_
  refine lv_iload_n hx hb dX3_amount_9 rfl (lv_at hl 1 rfl) ?_
  refine g_aldE C hP x1.toNatClampNeg e2_0 (by omega) dX3_amount_10 ?_
  refine g_getN (v := .long (L (14 + x1.toNatClampNeg) 1)) (T := TX0) C hP (14 + x1.toNatClampNeg) 1 (by omega) (kd_E (by omega) _ _) rfl inwX0 (by decide) kn_f182 rfl dX3_amount_11 ?_
  exact gT_lret C hr hP hS (by decide) (by decide) dX3_amount_14 (⟨h2_0, rfl, rfl, rfl⟩)
def pq_X3_requested (x1 : Int32) (I : MI) (L : ML) : Int32 → MI → ML → Prop := fun r I' L' => (¬ x1 < 0 ∧ x1 < 6 ∧ I (8 + x1.toNatClampNeg) 0 = r ∧ I = I' ∧ L = L')
def px_X3_requested (x1 : Int32) (I : MI) (L : ML) : String → MI → ML → Prop := fun E I' L' => (x1 < 0 ∧ xIO = E ∧ I = I' ∧ L = L') ∨ (¬ x1 < 0 ∧ ¬ x1 < 6 ∧ xIO = E ∧ I = I' ∧ L = L')
set_option maxRecDepth 100000 in
set_option maxHeartbeats 4000000 in
theorem ct_X3_requested (l : Launch) (D : va_G) (cy : Nat → ClassId) (ad : Nat → Nat) (hJ : gJ ad) (hlf : l.stackTraces = false) (x1 : Int32) (I : MI) (L : ML) : gTi l D cy ad yX3_requested cX3_requested 2 .int (gR 1 1 6) [.ref (ad 0), .int x1] I L (pq_X3_requested x1 I L) (px_X3_requested x1 I L) := by
  refine gTi_of hJ (by decide +kernel) kc_X3_requested (Nat.le_of_ble_eq_true rfl) (fun p e s m below meth c A ls C hr ht hP hS hl => ?_)
  have hx := C.hx
  have hb := C.hb
  have hl : lv_has ls 2 [(0, .ref (ad 0)), (1, .int x1)] := hl
  refine lv_iload_n hx hb dX3_requested_0 rfl (lv_at hl 1 rfl) ?_
  refine lv_if_lt (tgt := 10) hx hb dX3_requested_1 (by decide) (fun c1 => ?_) (fun c1 => ?_)
  · exact g_throwS (cls := xIO) C hlf hP hS hl.1 (by decide) kcl_X3_194 kini_IndexOutOfBoundsException ks_204 gat_198 gan_198 gao_198 dX3_requested_10 dX3_requested_13 dX3_requested_14 dX3_requested_16 dX3_requested_19 ht (by decide) (by decide) (by decide) (by decide) (by decide) (Or.inl (⟨c1, rfl, rfl, rfl⟩))
  · refine lv_iload_n hx hb dX3_requested_4 rfl (lv_at hl 1 rfl) ?_
    refine lv_bipush (v := 6) hx hb dX3_requested_5 (by decide) ?_
    refine lv_icmp_lt (tgt := 20) hx hb dX3_requested_7 (by decide) (fun c7 => ?_) (fun c7 => ?_)
    · have v20 : vp_in x1 6 := vpA2 c1 c7 rfl
      obtain ⟨e20, l20⟩ := vp_ix v20
      refine lv_aload_n hx hb dX3_requested_20 rfl (lv_at hl 0 rfl) ?_
      refine g_get (v := .ref (ad 4)) (T := TX3) C hP 0 4 (by decide) rfl rfl inwX3 (by decide) kf_X3_28 rfl dX3_requested_21 ?_
      refine lv_iload_n hx hb dX3_requested_24 rfl (lv_at hl 1 rfl) ?_
      refine g_aldQ C hP x1.toNatClampNeg e20 (by omega) dX3_requested_25 ?_
      refine g_getN (v := .int (I (8 + x1.toNatClampNeg) 0)) (T := TX2) C hP (8 + x1.toNatClampNeg) 0 (by omega) (kd_Q (by omega) _ _) rfl inwX2 (by decide) kn_f152 rfl dX3_requested_26 ?_
      exact gT_iret C hr hP hS (by decide) (by decide) dX3_requested_29 (⟨c1, c7, rfl, rfl, rfl⟩)
    · exact g_throwS (cls := xIO) C hlf hP hS hl.1 (by decide) kcl_X3_194 kini_IndexOutOfBoundsException ks_204 gat_198 gan_198 gao_198 dX3_requested_10 dX3_requested_13 dX3_requested_14 dX3_requested_16 dX3_requested_19 ht (by decide) (by decide) (by decide) (by decide) (by decide) (Or.inr (⟨c1, c7, rfl, rfl, rfl⟩))
end
section
/-! what the reference's methods compute -/
def gMM (I : MI) (x : Int32) (u p : Nat) : Prop := ¬ I 140 p < 0 ∧ ¬ I 140 p = x ∧ ¬ I 143 (8 * p + u) = 0
def gfw (f : Nat → Int32) : Nat := if f 0 < 0 then 0 else if f 1 < 0 then 1 else if f 2 < 0 then 2 else if f 3 < 0 then 3 else if f 4 < 0 then 4 else if f 5 < 0 then 5 else 6
theorem gfw_i {f : Nat → Int32} : ∀ i, i < 6 → (∀ k, k < i → ¬ f k < 0) → f i < 0 → gfw f = i
  | 0, _, _, h => by simp [gfw, h]
  | 1, _, h0, h => by simp [gfw, h, h0 0]
  | 2, _, h0, h => by simp [gfw, h, h0 0, h0 1]
  | 3, _, h0, h => by simp [gfw, h, h0 0, h0 1, h0 2]
  | 4, _, h0, h => by simp [gfw, h, h0 0, h0 1, h0 2, h0 3]
  | 5, _, h0, h => by simp [gfw, h, h0 0, h0 1, h0 2, h0 3, h0 4]
  | n + 6, hn, _, _ => absurd hn (by omega)
theorem gfw_6 {f : Nat → Int32} (h : ∀ k, k < 6 → ¬ f k < 0) : gfw f = 6 := by
  simp [gfw, h 0, h 1, h 2, h 3, h 4, h 5]
def gdn (i : Nat) : Int32 := nI i - 1
theorem gdn_s (j : Nat) : gdn (j + 1) = nI j := nI_pred j
theorem gdn_0 : gdn 0 = -1 := by decide
theorem gdn_neg {i : Nat} (hi : i < 2 ^ 31) (h : gdn i < 0) : i = 0 := by
  cases i with
  | zero => rfl
  | succ j =>
    rw [gdn_s] at h
    exact absurd h (nI_pos (by omega))
theorem gdn_nn {i : Nat} (h : ¬ gdn i < 0) : gdn i = nI (i - 1) ∧ 1 ≤ i := by
  cases i with
  | zero => exact absurd (show gdn 0 < 0 by decide) h
  | succ j => exact ⟨gdn_s j, by omega⟩
theorem gdn_dec {i : Nat} (h : 1 ≤ i) : gdn i + Int32.ofInt (-1) = gdn (i - 1) := by
  cases i with
  | zero => omega
  | succ j =>
    rw [gdn_s]
    show nI j + Int32.ofInt (-1) = nI j - 1
    rw [Int32.sub_eq_add_neg]
    rfl
def gzI (f : Nat → Int32) (i : Nat) (z : Int32) : Prop := (∃ j, i ≤ j ∧ j < 6 ∧ f j < 0 ∧ (∀ k, i ≤ k → k < j → ¬ f k < 0) ∧ z = nI j) ∨ ((∀ k, i ≤ k → k < 6 → ¬ f k < 0) ∧ z = -1)
theorem gzI_0 {f : Nat → Int32} : gzI f 6 (-1) := Or.inr ⟨fun k h1 h2 => by omega, rfl⟩
theorem gzI_y {f : Nat → Int32} {i : Nat} (hi : i ≤ 6) (h1 : 1 ≤ i) (h : f (i - 1) < 0) : gzI f (i - 1) (gdn i) := by
  refine Or.inl ⟨i - 1, Nat.le_refl _, by omega, h, fun k a b => by omega, ?_⟩
  have := gdn_s (i - 1)
  rw [show i - 1 + 1 = i by omega] at this
  exact this
theorem gzI_n {f : Nat → Int32} {i : Nat} {z : Int32} (h1 : 1 ≤ i) (h : ¬ f (i - 1) < 0) (hz : gzI f i z) : gzI f (i - 1) z := by
  rcases hz with ⟨j, a, b, c, d, e⟩ | ⟨a, e⟩
  · refine Or.inl ⟨j, by omega, b, c, fun k x y => ?_, e⟩
    by_cases hk : k = i - 1
    · rw [hk]; exact h
    · exact d k (by omega) y
  · refine Or.inr ⟨fun k x y => ?_, e⟩
    by_cases hk : k = i - 1
    · rw [hk]; exact h
    · exact a k (by omega) y
theorem gzI_end {f : Nat → Int32} {z : Int32} (h : gzI f 0 z) : (gfw f < 6 ∧ nI (gfw f) = z) ∨ (¬ gfw f < 6 ∧ -1 = z) := by
  rcases h with ⟨j, a, b, c, d, e⟩ | ⟨a, e⟩
  · have h := gfw_i j b (fun k hk => d k (Nat.zero_le k) hk) c
    exact Or.inl ⟨by omega, by rw [h, e]⟩
  · have h := gfw_6 (fun k hk => a k (Nat.zero_le k) hk)
    exact Or.inr ⟨by omega, e.symm⟩
/-- findPosts: one line more -/
theorem fps_step {L1 : ML} {g : Nat → Int64} {v : Int64} {i : Nat} (hv : v = g i) (h1 : ∀ k, k < i → L1 153 k = g k) : ∀ k, k < i + 1 → sL L1 153 i v 153 k = g k := fun k hk => by
  rw [sL_at]
  by_cases e : k = i
  · subst e
    rw [if_pos ⟨rfl, rfl⟩, hv]
  · rw [if_neg (fun z => e z.2)]
    exact h1 k (by omega)
theorem fps_end {L L1 : ML} {x : Int64} {f : Nat → Int32} {nn i : Nat} (hi : nn = i) (h0 : ∀ c, c ≠ 153 → L1 c = L c) (h1 : ∀ k, k < i → L1 153 k = gpo x f nn k) (h2 : ∀ k, i ≤ k → L1 153 k = L 153 k) : va_up L 153 (gpw x f nn (L 153)) = L1 := by
  apply ML_ext
  intro c k
  by_cases hc : c = 153
  · subst hc
    unfold gpw
    rw [va_up_self]
    by_cases h : k < nn
    · rw [if_pos h, h1 k (by omega)]
    · rw [if_neg h, h2 k (by omega)]
  · rw [va_up_ne _ _ hc, h0 c hc]
theorem gdl_n (acc : Nat → Int32) (po : Nat → Int64) (a n : Nat) : gdl acc po a (n + 1) = gdl acc po a n + (if (acc n).toNatClampNeg = a then po n else 0) := rfl
/-- run: i lines posted -/
def gRM (L : ML) (acc : Nat → Int32) (po : Nat → Int64) (i : Nat) : ML := va_up L 137 (fun a => L 137 a + gdl acc po a i)
theorem gRM_0 (L : ML) (acc : Nat → Int32) (po : Nat → Int64) : gRM L acc po 0 = L := by
  apply ML_ext
  intro a b
  unfold gRM
  by_cases h : a = 137
  · subst h
    simp [va_up, gdl]
  · simp [va_up, h]
theorem gdl_0 {acc : Nat → Int32} {po : Nat → Int64} {a : Nat} : ∀ n : Nat, (∀ k, k < n → (acc k).toNatClampNeg ≠ a) → gdl acc po a n = 0
  | 0, _ => rfl
  | n + 1, h => by
    show gdl acc po a n + _ = 0
    rw [gdl_0 n (fun k hk => h k (by omega)), if_neg (h n (by omega))]
    rfl
def gdis (acc : Nat → Int32) (n : Nat) : Prop := ∀ j k, j < n → k < n → (acc j).toNatClampNeg = (acc k).toNatClampNeg → j = k
theorem gRM_a {L : ML} {acc : Nat → Int32} {po : Nat → Int64} {n i : Nat} (hd : gdis acc n) (hi : i < n) : gRM L acc po i 137 (acc i).toNatClampNeg = L 137 (acc i).toNatClampNeg := by
  unfold gRM
  rw [va_up_self]
  show L 137 _ + gdl acc po _ i = _
  rw [gdl_0 i (fun k hk e => by have := hd k i (by omega) hi e; omega), Int64.add_zero]
theorem gRM_s {L : ML} {acc : Nat → Int32} {po : Nat → Int64} {n i : Nat} (hd : gdis acc n) (hi : i < n) : sL (gRM L acc po i) 137 (acc i).toNatClampNeg (L 137 (acc i).toNatClampNeg + po i) = gRM L acc po (i + 1) := by
  have h0 := gdl_0 (po := po) (a := (acc i).toNatClampNeg) i (fun k hk e => by have := hd k i (by omega) hi e; omega)
  apply ML_ext
  intro c k
  rw [sL_at]
  unfold gRM
  by_cases hc : c = 137
  · subst hc
    rw [va_up_self, va_up_self]
    by_cases hk : k = (acc i).toNatClampNeg
    · subst hk
      rw [if_pos ⟨rfl, rfl⟩, gdl_n, if_pos rfl, h0, Int64.zero_add]
    · rw [if_neg (show ¬ ((137 : Nat) = 137 ∧ k = _) from fun z => hk z.2), gdl_n, if_neg (Ne.symm hk), Int64.add_zero]
  · rw [if_neg (fun z => hc z.1), va_up_ne _ _ hc, va_up_ne _ _ hc]
/-- run: k of i lines taken back -/
def gUM (L : ML) (acc : Nat → Int32) (po : Nat → Int64) (i k : Nat) : ML := va_up L 137 (fun a => L 137 a + gdl acc po a i - gdl acc po a k)
theorem gUM_0 (L : ML) (acc : Nat → Int32) (po : Nat → Int64) (i : Nat) : gUM L acc po i 0 = gRM L acc po i := by
  unfold gUM gRM
  congr 1
  funext a
  exact Int64.sub_zero _
theorem gUM_i (L : ML) (acc : Nat → Int32) (po : Nat → Int64) (i : Nat) : gUM L acc po i i = L := by
  apply ML_ext
  intro a b
  unfold gUM
  by_cases h : a = 137
  · subst h
    rw [va_up_self]
    exact Int64.add_sub_cancel _ _
  · rw [va_up_ne _ _ h]
theorem gUM_s (L : ML) (acc : Nat → Int32) (po : Nat → Int64) (i k a : Nat) (ha : (acc k).toNatClampNeg = a) : sL (gUM L acc po i k) 137 a (gUM L acc po i k 137 a - po k) = gUM L acc po i (k + 1) := by
  apply ML_ext
  intro c b
  rw [sL_at]
  unfold gUM
  by_cases hc : c = 137
  · subst hc
    rw [va_up_self, va_up_self]
    by_cases hb : b = a
    · subst hb
      rw [if_pos ⟨rfl, rfl⟩, gdl_n, if_pos ha, Int64.sub_sub]
    · rw [if_neg (show ¬ ((137 : Nat) = 137 ∧ b = _) from fun z => hb z.2), gdl_n, if_neg (by rw [ha]; exact Ne.symm hb), Int64.add_zero]
  · rw [if_neg (fun z => hc z.1), va_up_ne _ _ hc, va_up_ne _ _ hc]
/-- what the first entries posted to an account -/
def gmA (I : MI) (p : Nat) : Nat → Int32 := fun k => I 141 (4 * p + k)
def gmS (I : MI) (p : Nat) : Nat → Int32 := fun k => I 142 (4 * p + k)
def gep (I : MI) (lc : Nat → Nat) (am : Nat → Int64) (e : Nat) : Nat → Int64 := fun k => if I 148 e < 0 then gpo (am e) (gmS I (I 144 e).toNatClampNeg) (lc (I 144 e).toNatClampNeg) k else -(gpo (am e) (gmS I (I 144 e).toNatClampNeg) (lc (I 144 e).toNatClampNeg) k)
def glg (I : MI) (lc : Nat → Nat) (am : Nat → Int64) (a : Nat) : Nat → Int64
  | 0 => 0
  | e + 1 => glg I lc am a e + gdl (gmA I (I 144 e).toNatClampNeg) (gep I lc am e) a (lc (I 144 e).toNatClampNeg)
/-- .. and the reference's row of postings behind it -/
def gsc (I : MI) (lc : Nat → Nat) (L : ML) : Nat → ML
  | 0 => L
  | e + 1 => va_up (gsc I lc L e) 153 (gpw (L 145 e) (gmS I (I 144 e).toNatClampNeg) (lc (I 144 e).toNatClampNeg) (gsc I lc L e 153))
theorem gsc_o (I : MI) (lc : Nat → Nat) (L : ML) {c : Nat} (h : c ≠ 153) : ∀ n, gsc I lc L n c = L c
  | 0 => rfl
  | n + 1 => (va_up_ne _ _ h).trans (gsc_o I lc L h n)
def glf (I : MI) (lc : Nat → Nat) (am : Nat → Int64) (ne : Nat) : Nat → Int64 := fun a => glg I lc am a ne
def gSS (I : MI) (lc : Nat → Nat) (L : ML) (ne : Nat) : Nat → ML
  | 0 => L
  | a + 1 => if gcn (L 137) (glf I lc (L 145) ne) a = 0 then gsc I lc (gSS I lc L ne a) ne else gSS I lc L ne a
theorem gSS_o (I : MI) (lc : Nat → Nat) (L : ML) (ne : Nat) {c : Nat} (h : c ≠ 153) : ∀ n, gSS I lc L ne n c = L c
  | 0 => rfl
  | n + 1 => by
    show (if _ then _ else _ : ML) c = _
    split
    · exact (gsc_o I lc _ h ne).trans (gSS_o I lc L ne h n)
    · exact gSS_o I lc L ne h n
def gz (b t : Nat → Int64) (n : Nat) : Int32 := if gcn b t n = 0 then 1 else 0
theorem gz_0 {b t : Nat → Int64} : gz b t 0 = 1 := rfl
/-- restore: a accounts set -/
def gRT (I : MI) (lc : Nat → Nat) (L : ML) (ne : Nat) : Nat → ML
  | 0 => L
  | a + 1 => sL (gsc I lc (gRT I lc L ne a) ne) 137 a (glg I lc (L 145) a ne)
theorem gRT_o (I : MI) (lc : Nat → Nat) (L : ML) (ne : Nat) {c : Nat} (h : c ≠ 153) (h2 : c ≠ 137) : ∀ n, gRT I lc L ne n c = L c
  | 0 => rfl
  | n + 1 => (sL_row h2).trans ((gsc_o I lc _ h ne).trans (gRT_o I lc L ne h h2 n))
theorem gRT_b (I : MI) (lc : Nat → Nat) (L : ML) (ne : Nat) : ∀ n b, gRT I lc L ne n 137 b = if b < n then glg I lc (L 145) b ne else L 137 b
  | 0, b => by rw [if_neg (Nat.not_lt_zero b)]; rfl
  | n + 1, b => by
    show sL _ 137 n _ 137 b = _
    rw [sL_at]
    by_cases h : b = n
    · subst h
      rw [if_pos ⟨rfl, rfl⟩, if_pos (Nat.lt_succ_self b)]
    · rw [if_neg (fun z => h z.2), gsc_o I lc _ (by decide) ne, gRT_b I lc L ne n b]
      by_cases hl : b < n
      · rw [if_pos hl, if_pos (Nat.lt_succ_of_lt hl)]
      · rw [if_neg hl, if_neg (by omega)]
theorem vp_mono {x : Int32} {n N : Nat} (h : vp_in x n) (hn : n ≤ N) : vp_in x N := by
  rw [vp_in_iff] at h ⊢
  omega
theorem hl_n {f : Nat → Int32} {x z : Int32} {i : Nat} (hc : z = 0) (h : ¬ f i = x) (hz : (z = 1 ∧ ∃ k, k < i ∧ f k = x) ∨ (z = 0 ∧ ¬ ∃ k, k < i ∧ f k = x)) : ((0 : Int32) = 1 ∧ ∃ k, k < i + 1 ∧ f k = x) ∨ ((0 : Int32) = 0 ∧ ¬ ∃ k, k < i + 1 ∧ f k = x) := by
  rcases hz with ⟨a, -⟩ | ⟨-, b⟩
  · rw [hc] at a
    exact absurd a (by decide)
  · refine Or.inr ⟨rfl, fun ⟨k, hk, e⟩ => ?_⟩
    by_cases e2 : k = i
    · rw [e2] at e
      exact h e
    · exact b ⟨k, by omega, e⟩
theorem hl_y {f : Nat → Int32} {x z : Int32} {i : Nat} (hc : ¬ z = 0) (hz : (z = 1 ∧ ∃ k, k < i ∧ f k = x) ∨ (z = 0 ∧ ¬ ∃ k, k < i ∧ f k = x)) : ((1 : Int32) = 1 ∧ ∃ k, k < i + 1 ∧ f k = x) ∨ ((1 : Int32) = 0 ∧ ¬ ∃ k, k < i + 1 ∧ f k = x) := by
  rcases hz with ⟨-, k, hk, e⟩ | ⟨a, -⟩
  · exact Or.inl ⟨rfl, k, by omega, e⟩
  · exact absurd a hc
theorem hl_b {z : Int32} {P Q : Prop} (hz : (z = 1 ∧ P) ∨ (z = 0 ∧ Q)) : narrow .boolean (.int z) = .int z := by
  rcases hz with ⟨rfl, -⟩ | ⟨rfl, -⟩ <;> rfl
theorem hl_e {f : Nat → Int32} {x z : Int32} {i nn : Nat} {I : MI} {L : ML} (hi : nn = i) (hz : (z = 1 ∧ ∃ k, k < i ∧ f k = x) ∨ (z = 0 ∧ ¬ ∃ k, k < i ∧ f k = x)) : ((∃ k, k < nn ∧ f k = x) ∧ 1 = z ∧ I = I ∧ L = L) ∨ (¬ (∃ k, k < nn ∧ f k = x) ∧ 0 = z ∧ I = I ∧ L = L) := by
  subst hi
  rcases hz with ⟨a, h⟩ | ⟨a, h⟩
  · exact Or.inl ⟨h, a.symm, rfl, rfl⟩
  · exact Or.inr ⟨h, a.symm, rfl, rfl⟩
/-! what is logged, line by line -/
theorem gd_0 {S : Int64} {acc : Nat → Int32} {po : Nat → Int64} {a : Nat} : S = S + gdl acc po a 0 := (Int64.add_zero _).symm
theorem gd_yp {S v : Int64} {acc : Nat → Int32} {po : Nat → Int64} {a k : Nat} (h : (acc k).toNatClampNeg = a) (hv : v = po k) : S + gdl acc po a k + v = S + gdl acc po a (k + 1) := by
  rw [gdl_n, if_pos h, hv, Int64.add_assoc]
theorem gd_ym {S v : Int64} {acc : Nat → Int32} {po : Nat → Int64} {a k : Nat} (h : (acc k).toNatClampNeg = a) (hv : -v = po k) : S + gdl acc po a k - v = S + gdl acc po a (k + 1) := by
  rw [gdl_n, if_pos h, ← hv, Int64.sub_eq_add_neg, Int64.add_assoc]
theorem gd_np {S : Int64} {acc : Nat → Int32} {po : Nat → Int64} {a k : Nat} (h : ¬ (acc k).toNatClampNeg = a) : S + gdl acc po a k + 0 = S + gdl acc po a (k + 1) := by
  rw [gdl_n, if_neg h, Int64.add_assoc]
theorem gd_nm {S : Int64} {acc : Nat → Int32} {po : Nat → Int64} {a k : Nat} (h : ¬ (acc k).toNatClampNeg = a) : S + gdl acc po a k - 0 = S + gdl acc po a (k + 1) := by
  rw [gdl_n, if_neg h, Int64.sub_zero, Int64.add_zero]
theorem gsc_153 {I : MI} {lc : Nat → Nat} {L : ML} {i k : Nat} (h : k < lc (I 144 i).toNatClampNeg) : gsc I lc L (i + 1) 153 k = gpo (L 145 i) (gmS I (I 144 i).toNatClampNeg) (lc (I 144 i).toNatClampNeg) k := by
  show (va_up (gsc I lc L i) 153 (gpw (L 145 i) (gmS I (I 144 i).toNatClampNeg) (lc (I 144 i).toNatClampNeg) (gsc I lc L i 153)) : ML) 153 k = _
  rw [va_up_self]
  exact if_pos h
theorem gz_nn {b t : Nat → Int64} {i : Nat} (h : gz b t i = 0) : 0 = gz b t (i + 1) := by
  unfold gz at h ⊢
  by_cases e : gcn b t i = 0
  · rw [if_pos e] at h; exact absurd h (by decide)
  · rw [if_neg (fun z => e (by have : gcn b t (i + 1) = gcn b t i + (if b i = t i then 0 else 1) := rfl; omega))]
theorem gz_ny {b t : Nat → Int64} {i : Nat} (h : ¬ gz b t i = 0) (hc : ¬ b i = t i) : 0 = gz b t (i + 1) := by
  unfold gz
  rw [if_neg (fun z => by have : gcn b t (i + 1) = gcn b t i + (if b i = t i then 0 else 1) := rfl; rw [if_neg hc] at this; omega)]
theorem gz_y0 {b t : Nat → Int64} {i : Nat} (h : ¬ gz b t i = 0) : gcn b t i = 0 := by
  unfold gz at h
  by_cases e : gcn b t i = 0
  · exact e
  · rw [if_neg e] at h; exact absurd rfl h
theorem gz_yy {b t : Nat → Int64} {i : Nat} (h : ¬ gz b t i = 0) (hc : b i = t i) : 1 = gz b t (i + 1) := by
  have h0 := gz_y0 h
  unfold gz
  rw [if_pos (by have : gcn b t (i + 1) = gcn b t i + (if b i = t i then 0 else 1) := rfl; rw [if_pos hc] at this; omega)]
theorem gz_b {b t : Nat → Int64} {i : Nat} : narrow .boolean (.int (gz b t i)) = .int (gz b t i) := by
  unfold gz
  split <;> rfl
theorem gSS_n {I : MI} {lc : Nat → Nat} {L : ML} {ne i : Nat} (h : gz (L 137) (glf I lc (L 145) ne) i = 0) : gSS I lc L ne i = gSS I lc L ne (i + 1) := by
  have h2 : ¬ gcn (L 137) (glf I lc (L 145) ne) i = 0 := fun z => by
    unfold gz at h
    rw [if_pos z] at h
    exact absurd h (by decide)
  exact (if_neg h2).symm
theorem gSS_y {I : MI} {lc : Nat → Nat} {L : ML} {ne i : Nat} (h : ¬ gz (L 137) (glf I lc (L 145) ne) i = 0) : gsc I lc (gSS I lc L ne i) ne = gSS I lc L ne (i + 1) := (if_pos (gz_y0 h)).symm
end
section
def pq_X4_isOne (x0 : Int32) (I : MI) (L : ML) : Int32 → MI → ML → Prop := fun r I' L' => (vp_in x0 8 ∧ 1 = r ∧ I = I' ∧ L = L') ∨ (¬ vp_in x0 8 ∧ 0 = r ∧ I = I' ∧ L = L')
set_option maxRecDepth 100000 in
set_option maxHeartbeats 4000000 in
theorem ct_X4_isOne (l : Launch) (D : va_G) (cy : Nat → ClassId) (ad : Nat → Nat) (hJ : gJ ad) (x0 : Int32) (I : MI) (L : ML) : gMi l D cy ad yX4_isOne cX4_isOne 1 .boolean (gR 5 0 0) [.int x0] I L (pq_X4_isOne x0 I L) := by
  refine gMi_of hJ (by decide +kernel) kc_X4_isOne (Nat.le_of_ble_eq_true rfl) (fun p e s m below meth c A ls C hr hP hS hl => ?_)
  have hx := C.hx
  have hb := C.hb
  have hl : lv_has ls 1 [(0, .int x0)] := hl
  refine lv_iload_n hx hb dX4_isOne_0 rfl (lv_at hl 0 rfl) ?_
  refine lv_if_lt (tgt := 14) hx hb dX4_isOne_1 (by decide) (fun c1 => ?_) (fun c1 => ?_)
  · refine lv_iconst (v := 0) hx hb dX4_isOne_14 (by decide) ?_
    exact gM_zret C hr narrow_b0 hP hS (by decide) (by decide) dX4_isOne_15 (Or.inr ⟨vpC c1, rfl, rfl, rfl⟩)  -- end 0: c1 : x0 < 0
  · refine lv_iload_n hx hb dX4_isOne_4 rfl (lv_at hl 0 rfl) ?_
    refine lv_bipush (v := 7) hx hb dX4_isOne_5 (by decide) ?_
    refine lv_icmp_gt (tgt := 14) hx hb dX4_isOne_7 (by decide) (fun c7 => ?_) (fun c7 => ?_)
    · refine lv_iconst (v := 0) hx hb dX4_isOne_14 (by decide) ?_
      exact gM_zret C hr narrow_b0 hP hS (by decide) (by decide) dX4_isOne_15 (Or.inr ⟨vpB3 c7 rfl, rfl, rfl, rfl⟩)  -- end 1: c1 : ¬ x0 < 0 ; c7 : 7 < x0
    · refine lv_iconst (v := 1) hx hb dX4_isOne_10 (by decide) ?_
      refine lv_goto (tgt := 15) hx hb dX4_isOne_11 (by decide) ?_
      exact gM_zret C hr narrow_b1 hP hS (by decide) (by decide) dX4_isOne_15 (Or.inl ⟨vpA3 c1 c7 rfl, rfl, rfl, rfl⟩)  -- end 2: c1 : ¬ x0 < 0 ; c7 : ¬ 7 < x0
def pq_X4_isProcedure (np : Nat) (x1 : Int32) (I : MI) (L : ML) : Int32 → MI → ML → Prop := fun r I' L' => (vp_in x1 np ∧ 1 = r ∧ I = I' ∧ L = L') ∨ (¬ vp_in x1 np ∧ 0 = r ∧ I = I' ∧ L = L')
set_option maxRecDepth 100000 in
set_option maxHeartbeats 4000000 in
theorem ct_X4_isProcedure (l : Launch) (D : va_G) (cy : Nat → ClassId) (ad : Nat → Nat) (hJ : gJ ad) (np : Nat) (x1 : Int32) (I : MI) (L : ML) (hmp : I 136 3 = nI np) (hmp10 : np ≤ 10) : gMi l D cy ad yX4_isProcedure cX4_isProcedure 2 .boolean (gR 5 0 0) [.ref (ad 136), .int x1] I L (pq_X4_isProcedure np x1 I L) := by
  refine gMi_of hJ (by decide +kernel) kc_X4_isProcedure (Nat.le_of_ble_eq_true rfl) (fun p e s m below meth c A ls C hr hP hS hl => ?_)
  have hx := C.hx
  have hb := C.hb
  have hl : lv_has ls 2 [(0, .ref (ad 136)), (1, .int x1)] := hl
  refine lv_iload_n hx hb dX4_isProcedure_0 rfl (lv_at hl 1 rfl) ?_
  refine lv_if_lt (tgt := 16) hx hb dX4_isProcedure_1 (by decide) (fun c1 => ?_) (fun c1 => ?_)
  · refine lv_iconst (v := 0) hx hb dX4_isProcedure_16 (by decide) ?_
    exact gM_zret C hr narrow_b0 hP hS (by decide) (by decide) dX4_isProcedure_17 (Or.inr ⟨vpC c1, rfl, rfl, rfl⟩)  -- end 0: c1 : x1 < 0
  · refine lv_iload_n hx hb dX4_isProcedure_4 rfl (lv_at hl 1 rfl) ?_
    refine lv_aload_n hx hb dX4_isProcedure_5 rfl (lv_at hl 0 rfl) ?_
    refine g_get (v := .int (nI np)) (T := TX4) C hP 136 3 (by decide) rfl rfl inwX4 (by decide) kf_X4_69 (congrArg (fun z => some (Value.int z)) hmp) dX4_isProcedure_6 ?_
    refine lv_icmp_ge (tgt := 16) hx hb dX4_isProcedure_9 (by decide) (fun c9 => ?_) (fun c9 => ?_)
    · refine lv_iconst (v := 0) hx hb dX4_isProcedure_16 (by decide) ?_
      exact gM_zret C hr narrow_b0 hP hS (by decide) (by decide) dX4_isProcedure_17 (Or.inr ⟨vpB c9 (nI_toInt (by omega)), rfl, rfl, rfl⟩)  -- end 1: c1 : ¬ x1 < 0 ; c9 : (nI np) ≤ x1
    · refine lv_iconst (v := 1) hx hb dX4_isProcedure_12 (by decide) ?_
      refine lv_goto (tgt := 17) hx hb dX4_isProcedure_13 (by decide) ?_
      exact gM_zret C hr narrow_b1 hP hS (by decide) (by decide) dX4_isProcedure_17 (Or.inl ⟨vpA c1 c9 (nI_toInt (by omega)), rfl, rfl, rfl⟩)  -- end 2: c1 : ¬ x1 < 0 ; c9 : ¬ (nI np) ≤ x1
def pq_X4_isEntry (ne : Nat) (x1 : Int32) (I : MI) (L : ML) : Int32 → MI → ML → Prop := fun r I' L' => (vp_in x1 ne ∧ 1 = r ∧ I = I' ∧ L = L') ∨ (¬ vp_in x1 ne ∧ 0 = r ∧ I = I' ∧ L = L')
set_option maxRecDepth 100000 in
set_option maxHeartbeats 4000000 in
theorem ct_X4_isEntry (l : Launch) (D : va_G) (cy : Nat → ClassId) (ad : Nat → Nat) (hJ : gJ ad) (ne : Nat) (x1 : Int32) (I : MI) (L : ML) (hme : I 136 9 = nI ne) (hme40 : ne ≤ 40) : gMi l D cy ad yX4_isEntry cX4_isEntry 2 .boolean (gR 5 0 0) [.ref (ad 136), .int x1] I L (pq_X4_isEntry ne x1 I L) := by
  refine gMi_of hJ (by decide +kernel) kc_X4_isEntry (Nat.le_of_ble_eq_true rfl) (fun p e s m below meth c A ls C hr hP hS hl => ?_)
  have hx := C.hx
  have hb := C.hb
  have hl : lv_has ls 2 [(0, .ref (ad 136)), (1, .int x1)] := hl
  refine lv_iload_n hx hb dX4_isEntry_0 rfl (lv_at hl 1 rfl) ?_
  refine lv_if_lt (tgt := 16) hx hb dX4_isEntry_1 (by decide) (fun c1 => ?_) (fun c1 => ?_)
  · refine lv_iconst (v := 0) hx hb dX4_isEntry_16 (by decide) ?_
    exact gM_zret C hr narrow_b0 hP hS (by decide) (by decide) dX4_isEntry_17 (Or.inr ⟨vpC c1, rfl, rfl, rfl⟩)  -- end 0: c1 : x1 < 0
  · refine lv_iload_n hx hb dX4_isEntry_4 rfl (lv_at hl 1 rfl) ?_
    refine lv_aload_n hx hb dX4_isEntry_5 rfl (lv_at hl 0 rfl) ?_
    refine g_get (v := .int (nI ne)) (T := TX4) C hP 136 9 (by decide) rfl rfl inwX4 (by decide) kf_X4_104 (congrArg (fun z => some (Value.int z)) hme) dX4_isEntry_6 ?_
    refine lv_icmp_ge (tgt := 16) hx hb dX4_isEntry_9 (by decide) (fun c9 => ?_) (fun c9 => ?_)
    · refine lv_iconst (v := 0) hx hb dX4_isEntry_16 (by decide) ?_
      exact gM_zret C hr narrow_b0 hP hS (by decide) (by decide) dX4_isEntry_17 (Or.inr ⟨vpB c9 (nI_toInt (by omega)), rfl, rfl, rfl⟩)  -- end 1: c1 : ¬ x1 < 0 ; c9 : (nI ne) ≤ x1
    · refine lv_iconst (v := 1) hx hb dX4_isEntry_12 (by decide) ?_
      refine lv_goto (tgt := 17) hx hb dX4_isEntry_13 (by decide) ?_
      exact gM_zret C hr narrow_b1 hP hS (by decide) (by decide) dX4_isEntry_17 (Or.inl ⟨vpA c1 c9 (nI_toInt (by omega)), rfl, rfl, rfl⟩)  -- end 2: c1 : ¬ x1 < 0 ; c9 : ¬ (nI ne) ≤ x1
def pq_X4_isOfficer (x0 : Int32) (I : MI) (L : ML) : Int32 → MI → ML → Prop := fun r I' L' => ((x0 = 0 ∨ x0 = 1) ∧ 1 = r ∧ I = I' ∧ L = L') ∨ (¬ (x0 = 0 ∨ x0 = 1) ∧ 0 = r ∧ I = I' ∧ L = L')
set_option maxRecDepth 100000 in
set_option maxHeartbeats 4000000 in
theorem ct_X4_isOfficer (l : Launch) (D : va_G) (cy : Nat → ClassId) (ad : Nat → Nat) (hJ : gJ ad) (x0 : Int32) (I : MI) (L : ML) : gMi l D cy ad yX4_isOfficer cX4_isOfficer 1 .boolean (gR 5 0 0) [.int x0] I L (pq_X4_isOfficer x0 I L) := by
  refine gMi_of hJ (by decide +kernel) kc_X4_isOfficer (Nat.le_of_ble_eq_true rfl) (fun p e s m below meth c A ls C hr hP hS hl => ?_)
  have hx := C.hx
  have hb := C.hb
  have hl : lv_has ls 1 [(0, .int x0)] := hl
  refine lv_iload_n hx hb dX4_isOfficer_0 rfl (lv_at hl 0 rfl) ?_
  refine lv_if_eq (tgt := 9) hx hb dX4_isOfficer_1 (by decide) (fun c1 => ?_) (fun c1 => ?_)
  · refine lv_iconst (v := 1) hx hb dX4_isOfficer_9 (by decide) ?_
    refine lv_goto (tgt := 14) hx hb dX4_isOfficer_10 (by decide) ?_
    exact gM_zret C hr narrow_b1 hP hS (by decide) (by decide) dX4_isOfficer_14 (Or.inl ⟨Or.inl c1, rfl, rfl, rfl⟩)  -- end 0: c1 : x0 = 0
  · refine lv_iload_n hx hb dX4_isOfficer_4 rfl (lv_at hl 0 rfl) ?_
    refine lv_iconst (v := 1) hx hb dX4_isOfficer_5 (by decide) ?_
    refine lv_icmp_ne (tgt := 13) hx hb dX4_isOfficer_6 (by decide) (fun c6 => ?_) (fun c6 => ?_)
    · refine lv_iconst (v := 0) hx hb dX4_isOfficer_13 (by decide) ?_
      exact gM_zret C hr narrow_b0 hP hS (by decide) (by decide) dX4_isOfficer_14 (Or.inr ⟨fun h => h.elim c1 c6, rfl, rfl, rfl⟩)  -- end 1: c1 : ¬ x0 = 0 ; c6 : ¬ x0 = 1
    · refine lv_iconst (v := 1) hx hb dX4_isOfficer_9 (by decide) ?_
      refine lv_goto (tgt := 14) hx hb dX4_isOfficer_10 (by decide) ?_
      exact gM_zret C hr narrow_b1 hP hS (by decide) (by decide) dX4_isOfficer_14 (Or.inl ⟨Or.inr c6, rfl, rfl, rfl⟩)  -- end 2: c1 : ¬ x0 = 0 ; c6 : x0 = 1
def pq_X4_isShare (x0 : Int32) (I : MI) (L : ML) : Int32 → MI → ML → Prop := fun r I' L' => (gSh x0 ∧ 1 = r ∧ I = I' ∧ L = L') ∨ (¬ gSh x0 ∧ 0 = r ∧ I = I' ∧ L = L')
set_option maxRecDepth 100000 in
set_option maxHeartbeats 4000000 in
theorem ct_X4_isShare (l : Launch) (D : va_G) (cy : Nat → ClassId) (ad : Nat → Nat) (hJ : gJ ad) (x0 : Int32) (I : MI) (L : ML) : gMi l D cy ad yX4_isShare cX4_isShare 1 .boolean (gR 5 0 0) [.int x0] I L (pq_X4_isShare x0 I L) := by
  refine gMi_of hJ (by decide +kernel) kc_X4_isShare (Nat.le_of_ble_eq_true rfl) (fun p e s m below meth c A ls C hr hP hS hl => ?_)
  have hx := C.hx
  have hb := C.hb
  have hl : lv_has ls 1 [(0, .int x0)] := hl
  refine lv_iload_n hx hb dX4_isShare_0 rfl (lv_at hl 0 rfl) ?_
  refine lv_bipush (v := (-100)) hx hb dX4_isShare_1 (by decide) ?_
  refine lv_icmp_lt (tgt := 20) hx hb dX4_isShare_3 (by decide) (fun c3 => ?_) (fun c3 => ?_)
  · refine lv_iconst (v := 0) hx hb dX4_isShare_20 (by decide) ?_
    exact gM_zret C hr narrow_b0 hP hS (by decide) (by decide) dX4_isShare_21 (Or.inr ⟨fun h => h.1 c3, rfl, rfl, rfl⟩)  -- end 0: c3 : x0 < (-100)
  · refine lv_iload_n hx hb dX4_isShare_6 rfl (lv_at hl 0 rfl) ?_
    refine lv_bipush (v := 100) hx hb dX4_isShare_7 (by decide) ?_
    refine lv_icmp_gt (tgt := 20) hx hb dX4_isShare_9 (by decide) (fun c9 => ?_) (fun c9 => ?_)
    · refine lv_iconst (v := 0) hx hb dX4_isShare_20 (by decide) ?_
      exact gM_zret C hr narrow_b0 hP hS (by decide) (by decide) dX4_isShare_21 (Or.inr ⟨fun h => h.2.1 c9, rfl, rfl, rfl⟩)  -- end 1: c3 : ¬ x0 < (-100) ; c9 : 100 < x0
    · refine lv_iload_n hx hb dX4_isShare_12 rfl (lv_at hl 0 rfl) ?_
      refine lv_if_eq (tgt := 20) hx hb dX4_isShare_13 (by decide) (fun c13 => ?_) (fun c13 => ?_)
      · refine lv_iconst (v := 0) hx hb dX4_isShare_20 (by decide) ?_
        exact gM_zret C hr narrow_b0 hP hS (by decide) (by decide) dX4_isShare_21 (Or.inr ⟨fun h => h.2.2 c13, rfl, rfl, rfl⟩)  -- end 2: c3 : ¬ x0 < (-100) ; c9 : ¬ 100 < x0 ; c13 : x0 = 0
      · refine lv_iconst (v := 1) hx hb dX4_isShare_16 (by decide) ?_
        refine lv_goto (tgt := 21) hx hb dX4_isShare_17 (by decide) ?_
        exact gM_zret C hr narrow_b1 hP hS (by decide) (by decide) dX4_isShare_21 (Or.inl ⟨⟨c3, c9, c13⟩, rfl, rfl, rfl⟩)  -- end 3: c3 : ¬ x0 < (-100) ; c9 : ¬ 100 < x0 ; c13 : ¬ x0 = 0
def pq_X4_thrown (I : MI) (L : ML) : Int32 → MI → ML → Prop := fun r I' L' => (I 136 0 = r ∧ I = I' ∧ L = L')
set_option maxRecDepth 100000 in
set_option maxHeartbeats 4000000 in
theorem ct_X4_thrown (l : Launch) (D : va_G) (cy : Nat → ClassId) (ad : Nat → Nat) (hJ : gJ ad) (I : MI) (L : ML) : gMi l D cy ad yX4_thrown cX4_thrown 1 .int (gR 5 0 0) [.ref (ad 136)] I L (pq_X4_thrown I L) := by
  refine gMi_of hJ (by decide +kernel) kc_X4_thrown (Nat.le_of_ble_eq_true rfl) (fun p e s m below meth c A ls C hr hP hS hl => ?_)
  have hx := C.hx
  have hb := C.hb
  have hl : lv_has ls 1 [(0, .ref (ad 136))] := hl
  refine lv_aload_n hx hb dX4_thrown_0 rfl (lv_at hl 0 rfl) ?_
  refine g_get (v := .int (I 136 0)) (T := TX4) C hP 136 0 (by decide) rfl rfl inwX4 (by decide) kf_X4_65 rfl dX4_thrown_1 ?_
  exact gM_iret C hr hP hS (by decide) (by decide) dX4_thrown_4 (⟨rfl, rfl, rfl⟩)
def pq_X4_isRequest (x1 : Int32) (I : MI) (L : ML) : Int32 → MI → ML → Prop := fun r I' L' => ((vp_in x1 6 ∧ ¬ I 150 x1.toNatClampNeg < 0) ∧ 1 = r ∧ I = I' ∧ L = L') ∨ (¬ (vp_in x1 6 ∧ ¬ I 150 x1.toNatClampNeg < 0) ∧ 0 = r ∧ I = I' ∧ L = L')
set_option maxRecDepth 100000 in
set_option maxHeartbeats 4000000 in
theorem ct_X4_isRequest (l : Launch) (D : va_G) (cy : Nat → ClassId) (ad : Nat → Nat) (hJ : gJ ad) (x1 : Int32) (I : MI) (L : ML) : gMi l D cy ad yX4_isRequest cX4_isRequest 2 .boolean (gR 5 0 0) [.ref (ad 136), .int x1] I L (pq_X4_isRequest x1 I L) := by
  refine gMi_of hJ (by decide +kernel) kc_X4_isRequest (Nat.le_of_ble_eq_true rfl) (fun p e s m below meth c A ls C hr hP hS hl => ?_)
  have hx := C.hx
  have hb := C.hb
  have hl : lv_has ls 2 [(0, .ref (ad 136)), (1, .int x1)] := hl
  refine lv_iload_n hx hb dX4_isRequest_0 rfl (lv_at hl 1 rfl) ?_
  refine lv_if_lt (tgt := 23) hx hb dX4_isRequest_1 (by decide) (fun c1 => ?_) (fun c1 => ?_)
  · refine lv_iconst (v := 0) hx hb dX4_isRequest_23 (by decide) ?_
    exact gM_zret C hr narrow_b0 hP hS (by decide) (by decide) dX4_isRequest_24 (Or.inr ⟨fun h => vpC c1 h.1, rfl, rfl, rfl⟩)  -- end 0: c1 : x1 < 0
  · refine lv_iload_n hx hb dX4_isRequest_4 rfl (lv_at hl 1 rfl) ?_
    refine lv_bipush (v := 6) hx hb dX4_isRequest_5 (by decide) ?_
    refine lv_icmp_ge (tgt := 23) hx hb dX4_isRequest_7 (by decide) (fun c7 => ?_) (fun c7 => ?_)
    · refine lv_iconst (v := 0) hx hb dX4_isRequest_23 (by decide) ?_
      exact gM_zret C hr narrow_b0 hP hS (by decide) (by decide) dX4_isRequest_24 (Or.inr ⟨fun h => vpB c7 rfl h.1, rfl, rfl, rfl⟩)  -- end 1: c1 : ¬ x1 < 0 ; c7 : 6 ≤ x1
    · have v7 : vp_in x1 6 := vpA c1 c7 rfl
      obtain ⟨e7, l7⟩ := vp_ix v7
      refine lv_aload_n hx hb dX4_isRequest_10 rfl (lv_at hl 0 rfl) ?_
      refine g_get (v := .ref (ad 150)) (T := TX4) C hP 136 16 (by decide) rfl rfl inwX4 (by decide) kf_X4_51 rfl dX4_isRequest_11 ?_
      refine lv_iload_n hx hb dX4_isRequest_14 rfl (lv_at hl 1 rfl) ?_
      refine g_iald (v := I 150 x1.toNatClampNeg) C hP 150 6 (by decide) (fun _ _ => rfl) x1.toNatClampNeg e7 rfl (by omega) (by decide) dX4_isRequest_15 ?_
      refine lv_if_lt (tgt := 23) hx hb dX4_isRequest_16 (by decide) (fun c16 => ?_) (fun c16 => ?_)
      · refine lv_iconst (v := 0) hx hb dX4_isRequest_23 (by decide) ?_
        exact gM_zret C hr narrow_b0 hP hS (by decide) (by decide) dX4_isRequest_24 (Or.inr ⟨fun h => h.2 c16, rfl, rfl, rfl⟩)  -- end 2: c1 : ¬ x1 < 0 ; c7 : ¬ 6 ≤ x1 ; c16 : (I 150 x1.toNatClampNeg) < 0
      · refine lv_iconst (v := 1) hx hb dX4_isRequest_19 (by decide) ?_
        refine lv_goto (tgt := 24) hx hb dX4_isRequest_20 (by decide) ?_
        exact gM_zret C hr narrow_b1 hP hS (by decide) (by decide) dX4_isRequest_24 (Or.inl ⟨⟨v7, c16⟩, rfl, rfl, rfl⟩)  -- end 3: c1 : ¬ x1 < 0 ; c7 : ¬ 6 ≤ x1 ; c16 : ¬ (I 150 x1.toNatClampNeg) < 0
def pq_X4_hasLine (pp : Nat) (nn : Nat) (x1 : Int32) (x2 : Int32) (I : MI) (L : ML) : Int32 → MI → ML → Prop := fun r I' L' => ((∃ k, k < nn ∧ I 141 (4 * pp + k) = x2) ∧ 1 = r ∧ I = I' ∧ L = L') ∨ (¬ (∃ k, k < nn ∧ I 141 (4 * pp + k) = x2) ∧ 0 = r ∧ I = I' ∧ L = L')
set_option maxRecDepth 100000 in
set_option maxHeartbeats 4000000 in
theorem ct_X4_hasLine (l : Launch) (D : va_G) (cy : Nat → ClassId) (ad : Nat → Nat) (hJ : gJ ad) (pp : Nat) (nn : Nat) (x1 : Int32) (x2 : Int32) (I : MI) (L : ML) (hx1 : x1 = nI pp) (hp : pp < 10) (hn : I 139 pp = nI nn) (hn4 : nn ≤ 4) : gMi l D cy ad yX4_hasLine cX4_hasLine 5 .boolean (gR 5 0 0) [.ref (ad 136), .int x1, .int x2] I L (pq_X4_hasLine pp nn x1 x2 I L) := by
  refine gMi_of hJ (by decide +kernel) kc_X4_hasLine (Nat.le_of_ble_eq_true rfl) (fun p e s m below meth c A ls C hr hP hS hl => ?_)
  have hx := C.hx
  have hb := C.hb
  have hl : lv_has ls 5 [(0, .ref (ad 136)), (1, .int x1), (2, .int x2)] := hl
  refine lv_iconst (v := 0) hx hb dX4_hasLine_0 (by decide) ?_
  refine lv_istore_n (lv' := [(3, .int 0), (0, .ref (ad 136)), (1, .int x1), (2, .int x2)]) hx hb dX4_hasLine_1 rfl hl (by decide) rfl (fun ls hl => ?_)
  refine lv_iconst (v := 0) hx hb dX4_hasLine_2 (by decide) ?_
  refine lv_istore (lv' := [(4, .int 0), (3, .int 0), (0, .ref (ad 136)), (1, .int x1), (2, .int x2)]) hx hb dX4_hasLine_3 hl (by decide) rfl (fun ls hl => ?_)
  have loop5 : ∀ (N : Nat) (i : Nat) (z : Int32) (hi : i ≤ nn) (hz : (z = 1 ∧ ∃ k, k < i ∧ I 141 (4 * pp + k) = x2) ∨ (z = 0 ∧ ¬ ∃ k, k < i ∧ I 141 (4 * pp + k) = x2)) (hfu : nn < i + N) (H : Heap) (locs : List Loc) (ls : Array Slot), gP D cy ad I L H → va_S A s.heap H locs → lv_has ls 5 [(0, .ref (ad 136)), (1, .int x1), (2, .int x2), (3, .int z), (4, .int (nI i))] → W p l e (gR 5 0 0) s m ([.ref (ad 136), .int x1, .int x2] : List Value).toArray below meth c H locs 0 0 (MQ below (gQi D cy ad A (pq_X4_hasLine pp nn x1 x2 I L)) ([.ref (ad 136), .int x1, .int x2] : List Value).toArray s 0 0 A) (F0 m 5 ls []) := by
    intro N
    induction N with
    | zero =>
      intro i z hi hz hfu
      exact absurd hfu (by omega)
    | succ N ih5 =>
      intro i z hi hz hfu H locs ls hP hS hl
      refine lv_iload hx hb dX4_hasLine_5 (lv_at hl 4 rfl) ?_
      refine lv_aload_n hx hb dX4_hasLine_7 rfl (lv_at hl 0 rfl) ?_
      refine g_get (v := .ref (ad 139)) (T := TX4) C hP 136 4 (by decide) rfl rfl inwX4 (by decide) kf_X4_16 rfl dX4_hasLine_8 ?_
      refine lv_iload_n hx hb dX4_hasLine_11 rfl (lv_at hl 1 rfl) ?_
      refine g_iald (v := nI nn) C hP 139 10 (by decide) (fun _ _ => rfl) pp hx1 hn (by omega) (by decide) dX4_hasLine_12 ?_
      refine lv_icmp_ge (tgt := 47) hx hb dX4_hasLine_13 (by decide) (fun c13 => ?_) (fun c13 => ?_)
      · have n13 : nn ≤ i := (nI_leeE rfl rfl (by omega) (by omega)).mp c13
        refine lv_iload_n hx hb dX4_hasLine_47 rfl (lv_at hl 3 rfl) ?_
        exact gM_zret C hr (hl_b hz) hP hS (by decide) (by decide) dX4_hasLine_48 (hl_e (f := fun k => I 141 (4 * pp + k)) (show nn = i by omega) hz)  -- end 0: n13 : nn ≤ i
      · have n13 : ¬ nn ≤ i := (not_congr (nI_leeE rfl rfl (by omega) (by omega))).mp c13
        refine lv_iload_n hx hb dX4_hasLine_16 rfl (lv_at hl 3 rfl) ?_
        refine lv_if_ne (tgt := 35) hx hb dX4_hasLine_17 (by decide) (fun c17 => ?_) (fun c17 => ?_)
        · refine lv_iconst (v := 1) hx hb dX4_hasLine_35 (by decide) ?_
          refine lv_goto (tgt := 40) hx hb dX4_hasLine_36 (by decide) ?_
          refine lv_istore_n (lv' := [(3, .int 1), (0, .ref (ad 136)), (1, .int x1), (2, .int x2), (4, .int (nI i))]) hx hb dX4_hasLine_40 rfl hl (by decide) rfl (fun ls hl => ?_)
          refine lv_iinc (v := nI (i + 1)) (lv' := [(4, .int (nI (i + 1))), (3, .int 1), (0, .ref (ad 136)), (1, .int x1), (2, .int x2)]) hx hb dX4_hasLine_41 hl (k := 4) rfl (nI_1 _) (by decide) rfl (fun ls hl => ?_)
          refine lv_goto (tgt := 5) hx hb dX4_hasLine_44 (by decide) ?_
          exact ih5 (i + 1) 1 (by omega) (hl_y (f := fun k => I 141 (4 * pp + k)) c17 hz) (by omega) _ _ _ hP hS (lv_sub hl [2, 3, 4, 1, 0] rfl)
        · refine lv_aload_n hx hb dX4_hasLine_20 rfl (lv_at hl 0 rfl) ?_
          refine g_get (v := .ref (ad 141)) (T := TX4) C hP 136 6 (by decide) rfl rfl inwX4 (by decide) kf_X4_23 rfl dX4_hasLine_21 ?_
          refine lv_iconst (v := 4) hx hb dX4_hasLine_24 (by decide) ?_
          refine lv_iload_n hx hb dX4_hasLine_25 rfl (lv_at hl 1 rfl) ?_
          refine lv_imul hx hb dX4_hasLine_26 ?_
          refine lv_iload hx hb dX4_hasLine_27 (lv_at hl 4 rfl) ?_
          refine lv_iadd hx hb dX4_hasLine_29 ?_
          refine g_iald (v := I 141 ((4 * pp) + i)) C hP 141 40 (by decide) (fun _ _ => rfl) ((4 * pp) + i) (nI_addE (nI_mulE (show (4 : Int32) = nI 4 from rfl) hx1) rfl) rfl (by omega) (by decide) dX4_hasLine_30 ?_
          refine lv_iload_n hx hb dX4_hasLine_31 rfl (lv_at hl 2 rfl) ?_
          refine lv_icmp_ne (tgt := 39) hx hb dX4_hasLine_32 (by decide) (fun c32 => ?_) (fun c32 => ?_)
          · refine lv_iconst (v := 0) hx hb dX4_hasLine_39 (by decide) ?_
            refine lv_istore_n (lv' := [(3, .int 0), (0, .ref (ad 136)), (1, .int x1), (2, .int x2), (4, .int (nI i))]) hx hb dX4_hasLine_40 rfl hl (by decide) rfl (fun ls hl => ?_)
            refine lv_iinc (v := nI (i + 1)) (lv' := [(4, .int (nI (i + 1))), (3, .int 0), (0, .ref (ad 136)), (1, .int x1), (2, .int x2)]) hx hb dX4_hasLine_41 hl (k := 4) rfl (nI_1 _) (by decide) rfl (fun ls hl => ?_)
            refine lv_goto (tgt := 5) hx hb dX4_hasLine_44 (by decide) ?_
            exact ih5 (i + 1) 0 (by omega) (hl_n (f := fun k => I 141 (4 * pp + k)) c17 c32 hz) (by omega) _ _ _ hP hS (lv_sub hl [2, 3, 4, 1, 0] rfl)
          · refine lv_iconst (v := 1) hx hb dX4_hasLine_35 (by decide) ?_
            refine lv_goto (tgt := 40) hx hb dX4_hasLine_36 (by decide) ?_
            refine lv_istore_n (lv' := [(3, .int 1), (0, .ref (ad 136)), (1, .int x1), (2, .int x2), (4, .int (nI i))]) hx hb dX4_hasLine_40 rfl hl (by decide) rfl (fun ls hl => ?_)
            refine lv_iinc (v := nI (i + 1)) (lv' := [(4, .int (nI (i + 1))), (3, .int 1), (0, .ref (ad 136)), (1, .int x1), (2, .int x2)]) hx hb dX4_hasLine_41 hl (k := 4) rfl (nI_1 _) (by decide) rfl (fun ls hl => ?_)
            refine lv_goto (tgt := 5) hx hb dX4_hasLine_44 (by decide) ?_
            exact ih5 (i + 1) 1 (by omega) (Or.inl ⟨rfl, i, by omega, c32⟩) (by omega) _ _ _ hP hS (lv_sub hl [2, 3, 4, 1, 0] rfl)
  exact loop5 (nn + 1) 0 0 (Nat.zero_le _) (Or.inr ⟨rfl, fun ⟨k, h, _⟩ => absurd h (Nat.not_lt_zero _)⟩) (by omega) _ _ _ hP hS (lv_sub hl [2, 3, 4, 1, 0] rfl)
def pq_X4_allShares (pp : Nat) (nn : Nat) (x1 : Int32) (I : MI) (L : ML) : Int32 → MI → ML → Prop := fun r I' L' => gsm (gmS I pp) nn = r ∧ I = I' ∧ L = L'
set_option maxRecDepth 100000 in
set_option maxHeartbeats 4000000 in
theorem ct_X4_allShares (l : Launch) (D : va_G) (cy : Nat → ClassId) (ad : Nat → Nat) (hJ : gJ ad) (pp : Nat) (nn : Nat) (x1 : Int32) (I : MI) (L : ML) (hx1 : x1 = nI pp) (hp : pp < 10) (hn : I 139 pp = nI nn) (hn4 : nn ≤ 4) : gMi l D cy ad yX4_allShares cX4_allShares 4 .int (gR 5 0 0) [.ref (ad 136), .int x1] I L (pq_X4_allShares pp nn x1 I L) := by
  refine gMi_of hJ (by decide +kernel) kc_X4_allShares (Nat.le_of_ble_eq_true rfl) (fun p e s m below meth c A ls C hr hP hS hl => ?_)
  have hx := C.hx
  have hb := C.hb
  have hl : lv_has ls 4 [(0, .ref (ad 136)), (1, .int x1)] := hl
  refine lv_iconst (v := 0) hx hb dX4_allShares_0 (by decide) ?_
  refine lv_istore_n (lv' := [(2, .int 0), (0, .ref (ad 136)), (1, .int x1)]) hx hb dX4_allShares_1 rfl hl (by decide) rfl (fun ls hl => ?_)
  refine lv_iconst (v := 0) hx hb dX4_allShares_2 (by decide) ?_
  refine lv_istore_n (lv' := [(3, .int 0), (2, .int 0), (0, .ref (ad 136)), (1, .int x1)]) hx hb dX4_allShares_3 rfl hl (by decide) rfl (fun ls hl => ?_)
  have loop4 : ∀ (N : Nat) (i : Nat) (hi : i ≤ nn) (hfu : nn < i + N) (H : Heap) (locs : List Loc) (ls : Array Slot), gP D cy ad I L H → va_S A s.heap H locs → lv_has ls 4 [(0, .ref (ad 136)), (1, .int x1), (2, .int (gsm (gmS I pp) i)), (3, .int (nI i))] → W p l e (gR 5 0 0) s m ([.ref (ad 136), .int x1] : List Value).toArray below meth c H locs 0 0 (MQ below (gQi D cy ad A (pq_X4_allShares pp nn x1 I L)) ([.ref (ad 136), .int x1] : List Value).toArray s 0 0 A) (F0 m 4 ls []) := by
    intro N
    induction N with
    | zero =>
      intro i hi hfu
      exact absurd hfu (by omega)
    | succ N ih4 =>
      intro i hi hfu H locs ls hP hS hl
      refine lv_iload_n hx hb dX4_allShares_4 rfl (lv_at hl 3 rfl) ?_
      refine lv_aload_n hx hb dX4_allShares_5 rfl (lv_at hl 0 rfl) ?_
      refine g_get (v := .ref (ad 139)) (T := TX4) C hP 136 4 (by decide) rfl rfl inwX4 (by decide) kf_X4_16 rfl dX4_allShares_6 ?_
      refine lv_iload_n hx hb dX4_allShares_9 rfl (lv_at hl 1 rfl) ?_
      refine g_iald (v := nI nn) C hP 139 10 (by decide) (fun _ _ => rfl) pp hx1 hn (by omega) (by decide) dX4_allShares_10 ?_
      refine lv_icmp_ge (tgt := 33) hx hb dX4_allShares_11 (by decide) (fun c11 => ?_) (fun c11 => ?_)
      · have n11 : nn ≤ i := (nI_leeE rfl rfl (by omega) (by omega)).mp c11
        refine lv_iload_n hx hb dX4_allShares_33 rfl (lv_at hl 2 rfl) ?_
        exact gM_iret C hr hP hS (by decide) (by decide) dX4_allShares_34 (⟨by rw [show nn = i by omega], rfl, rfl⟩)  -- end 0: n11 : nn ≤ i
      · have n11 : ¬ nn ≤ i := (not_congr (nI_leeE rfl rfl (by omega) (by omega))).mp c11
        refine lv_iload_n hx hb dX4_allShares_14 rfl (lv_at hl 2 rfl) ?_
        refine lv_aload_n hx hb dX4_allShares_15 rfl (lv_at hl 0 rfl) ?_
        refine g_get (v := .ref (ad 142)) (T := TX4) C hP 136 7 (by decide) rfl rfl inwX4 (by decide) kf_X4_26 rfl dX4_allShares_16 ?_
        refine lv_iconst (v := 4) hx hb dX4_allShares_19 (by decide) ?_
        refine lv_iload_n hx hb dX4_allShares_20 rfl (lv_at hl 1 rfl) ?_
        refine lv_imul hx hb dX4_allShares_21 ?_
        refine lv_iload_n hx hb dX4_allShares_22 rfl (lv_at hl 3 rfl) ?_
        refine lv_iadd hx hb dX4_allShares_23 ?_
        refine g_iald (v := I 142 ((4 * pp) + i)) C hP 142 40 (by decide) (fun _ _ => rfl) ((4 * pp) + i) (nI_addE (nI_mulE (show (4 : Int32) = nI 4 from rfl) hx1) rfl) rfl (by omega) (by decide) dX4_allShares_24 ?_
        refine lv_iadd hx hb dX4_allShares_25 ?_
        refine lv_istore_n (lv' := [(2, .int ((gsm (gmS I pp) i) + (I 142 ((4 * pp) + i)))), (0, .ref (ad 136)), (1, .int x1), (3, .int (nI i))]) hx hb dX4_allShares_26 rfl hl (by decide) rfl (fun ls hl => ?_)
        refine lv_iinc (v := nI (i + 1)) (lv' := [(3, .int (nI (i + 1))), (2, .int ((gsm (gmS I pp) i) + (I 142 ((4 * pp) + i)))), (0, .ref (ad 136)), (1, .int x1)]) hx hb dX4_allShares_27 hl (k := 3) rfl (nI_1 _) (by decide) rfl (fun ls hl => ?_)
        refine lv_goto (tgt := 4) hx hb dX4_allShares_30 (by decide) ?_
        exact ih4 (i + 1) (by omega) (by omega) _ _ _ hP hS (lv_sub hl [2, 3, 1, 0] rfl)
  exact loop4 (nn + 1) 0 (Nat.zero_le _) (by omega) _ _ _ hP hS (lv_sub hl [2, 3, 1, 0] rfl)
def pq_X4_may (uu : Nat) (pp : Nat) (x1 : Int32) (x2 : Int32) (I : MI) (L : ML) : Int32 → MI → ML → Prop := fun r I' L' => (gMM I x1 uu pp ∧ 1 = r ∧ I = I' ∧ L = L') ∨ (¬ gMM I x1 uu pp ∧ 0 = r ∧ I = I' ∧ L = L')
set_option maxRecDepth 100000 in
set_option maxHeartbeats 4000000 in
theorem ct_X4_may (l : Launch) (D : va_G) (cy : Nat → ClassId) (ad : Nat → Nat) (hJ : gJ ad) (uu : Nat) (pp : Nat) (x1 : Int32) (x2 : Int32) (I : MI) (L : ML) (hx1 : x1 = nI uu) (hu : uu < 8) (hx2 : x2 = nI pp) (hp : pp < 10) : gMi l D cy ad yX4_may cX4_may 3 .boolean (gR 5 0 0) [.ref (ad 136), .int x1, .int x2] I L (pq_X4_may uu pp x1 x2 I L) := by
  refine gMi_of hJ (by decide +kernel) kc_X4_may (Nat.le_of_ble_eq_true rfl) (fun p e s m below meth c A ls C hr hP hS hl => ?_)
  have hx := C.hx
  have hb := C.hb
  have hl : lv_has ls 3 [(0, .ref (ad 136)), (1, .int x1), (2, .int x2)] := hl
  refine lv_aload_n hx hb dX4_may_0 rfl (lv_at hl 0 rfl) ?_
  refine g_get (v := .ref (ad 140)) (T := TX4) C hP 136 5 (by decide) rfl rfl inwX4 (by decide) kf_X4_20 rfl dX4_may_1 ?_
  refine lv_iload_n hx hb dX4_may_4 rfl (lv_at hl 2 rfl) ?_
  refine g_iald (v := I 140 pp) C hP 140 10 (by decide) (fun _ _ => rfl) pp hx2 rfl (by omega) (by decide) dX4_may_5 ?_
  refine lv_if_lt (tgt := 37) hx hb dX4_may_6 (by decide) (fun c6 => ?_) (fun c6 => ?_)
  · refine lv_iconst (v := 0) hx hb dX4_may_37 (by decide) ?_
    exact gM_zret C hr narrow_b0 hP hS (by decide) (by decide) dX4_may_38 (Or.inr ⟨fun h => h.1 c6, rfl, rfl, rfl⟩)  -- end 0: c6 : (I 140 pp) < 0
  · refine lv_aload_n hx hb dX4_may_9 rfl (lv_at hl 0 rfl) ?_
    refine g_get (v := .ref (ad 140)) (T := TX4) C hP 136 5 (by decide) rfl rfl inwX4 (by decide) kf_X4_20 rfl dX4_may_10 ?_
    refine lv_iload_n hx hb dX4_may_13 rfl (lv_at hl 2 rfl) ?_
    refine g_iald (v := I 140 pp) C hP 140 10 (by decide) (fun _ _ => rfl) pp hx2 rfl (by omega) (by decide) dX4_may_14 ?_
    refine lv_iload_n hx hb dX4_may_15 rfl (lv_at hl 1 rfl) ?_
    refine lv_icmp_eq (tgt := 37) hx hb dX4_may_16 (by decide) (fun c16 => ?_) (fun c16 => ?_)
    · refine lv_iconst (v := 0) hx hb dX4_may_37 (by decide) ?_
      exact gM_zret C hr narrow_b0 hP hS (by decide) (by decide) dX4_may_38 (Or.inr ⟨fun h => h.2.1 c16, rfl, rfl, rfl⟩)  -- end 1: c6 : ¬ (I 140 pp) < 0 ; c16 : (I 140 pp) = x1
    · refine lv_aload_n hx hb dX4_may_19 rfl (lv_at hl 0 rfl) ?_
      refine g_get (v := .ref (ad 143)) (T := TX4) C hP 136 8 (by decide) rfl rfl inwX4 (by decide) kf_X4_29 rfl dX4_may_20 ?_
      refine lv_bipush (v := 8) hx hb dX4_may_23 (by decide) ?_
      refine lv_iload_n hx hb dX4_may_25 rfl (lv_at hl 2 rfl) ?_
      refine lv_imul hx hb dX4_may_26 ?_
      refine lv_iload_n hx hb dX4_may_27 rfl (lv_at hl 1 rfl) ?_
      refine lv_iadd hx hb dX4_may_28 ?_
      refine g_zald (v := I 143 ((8 * pp) + uu)) C hP 143 80 (by decide) (fun _ _ => rfl) ((8 * pp) + uu) (nI_addE (nI_mulE (show (8 : Int32) = nI 8 from rfl) hx2) hx1) rfl (by omega) (by decide) dX4_may_29 ?_
      refine lv_if_eq (tgt := 37) hx hb dX4_may_30 (by decide) (fun c30 => ?_) (fun c30 => ?_)
      · refine lv_iconst (v := 0) hx hb dX4_may_37 (by decide) ?_
        exact gM_zret C hr narrow_b0 hP hS (by decide) (by decide) dX4_may_38 (Or.inr ⟨fun h => h.2.2 c30, rfl, rfl, rfl⟩)  -- end 2: c6 : ¬ (I 140 pp) < 0 ; c16 : ¬ (I 140 pp) = x1 ; c30 : (I 143 ((8 * pp) + uu)) = 0
      · refine lv_iconst (v := 1) hx hb dX4_may_33 (by decide) ?_
        refine lv_goto (tgt := 38) hx hb dX4_may_34 (by decide) ?_
        exact gM_zret C hr narrow_b1 hP hS (by decide) (by decide) dX4_may_38 (Or.inl ⟨⟨c6, c16, c30⟩, rfl, rfl, rfl⟩)  -- end 3: c6 : ¬ (I 140 pp) < 0 ; c16 : ¬ (I 140 pp) = x1 ; c30 : ¬ (I 143 ((8 * pp) + uu)) = 0
def pq_X4_mayApprove (uu : Nat) (qq : Nat) (x1 : Int32) (x2 : Int32) (I : MI) (L : ML) : Int32 → MI → ML → Prop := fun r I' L' => ((gMM I x1 uu (I 151 qq).toNatClampNeg ∧ ¬ I 150 qq = x1) ∧ 1 = r ∧ I = I' ∧ L = L') ∨ (¬ (gMM I x1 uu (I 151 qq).toNatClampNeg ∧ ¬ I 150 qq = x1) ∧ 0 = r ∧ I = I' ∧ L = L')
set_option maxRecDepth 100000 in
set_option maxHeartbeats 4000000 in
theorem ct_X4_mayApprove (l : Launch) (D : va_G) (cy : Nat → ClassId) (ad : Nat → Nat) (hJ : gJ ad) (uu : Nat) (qq : Nat) (x1 : Int32) (x2 : Int32) (I : MI) (L : ML) (hx1 : x1 = nI uu) (hu : uu < 8) (hx2 : x2 = nI qq) (hq : qq < 6) (hw : vp_in (I 151 qq) 10) : gMi l D cy ad yX4_mayApprove cX4_mayApprove 3 .boolean (gR 4 0 0) [.ref (ad 136), .int x1, .int x2] I L (pq_X4_mayApprove uu qq x1 x2 I L) := by
  refine gMi_of hJ (by decide +kernel) kc_X4_mayApprove (Nat.le_of_ble_eq_true rfl) (fun p e s m below meth c A ls C hr hP hS hl => ?_)
  have hx := C.hx
  have hb := C.hb
  have hl : lv_has ls 3 [(0, .ref (ad 136)), (1, .int x1), (2, .int x2)] := hl
  refine lv_aload_n hx hb dX4_mayApprove_0 rfl (lv_at hl 0 rfl) ?_
  refine lv_iload_n hx hb dX4_mayApprove_1 rfl (lv_at hl 1 rfl) ?_
  refine lv_aload_n hx hb dX4_mayApprove_2 rfl (lv_at hl 0 rfl) ?_
  refine g_get (v := .ref (ad 151)) (T := TX4) C hP 136 17 (by decide) rfl rfl inwX4 (by decide) kf_X4_54 rfl dX4_mayApprove_3 ?_
  refine lv_iload_n hx hb dX4_mayApprove_6 rfl (lv_at hl 2 rfl) ?_
  refine g_iald (v := I 151 qq) C hP 151 6 (by decide) (fun _ _ => rfl) qq hx2 rfl (by omega) (by decide) dX4_mayApprove_7 ?_
  obtain ⟨e8, l8⟩ := vp_ix hw
  refine gM_callVi (As := [.int x1, .int (I 151 qq)]) (rest := []) C hP hS hl.1 (ct_X4_may l D cy ad hJ uu ((I 151 qq).toNatClampNeg) x1 (I 151 qq) I L hx1 (by omega) e8 (by omega)) fa_X4_may kl_X4_93 ki_X4_may kse_X4_may (by decide) (T := TX4) rfl rfl rfl (by decide) (Nat.le_of_ble_eq_true rfl) (by decide) dX4_mayApprove_8 rfl (fun r8 I8 L8 H locs hq hP hS => ?_)
  rcases hq with ⟨h8_0, rfl, rfl, rfl⟩ | ⟨h8_0, rfl, rfl, rfl⟩
  · refine lv_if_eq (tgt := 28) hx hb dX4_mayApprove_11 (by decide) (fun c => absurd c (by decide)) (fun _ => ?_)
    refine lv_aload_n hx hb dX4_mayApprove_14 rfl (lv_at hl 0 rfl) ?_
    refine g_get (v := .ref (ad 150)) (T := TX4) C hP 136 16 (by decide) rfl rfl inwX4 (by decide) kf_X4_51 rfl dX4_mayApprove_15 ?_
    refine lv_iload_n hx hb dX4_mayApprove_18 rfl (lv_at hl 2 rfl) ?_
    refine g_iald (v := I 150 qq) C hP 150 6 (by decide) (fun _ _ => rfl) qq hx2 rfl (by omega) (by decide) dX4_mayApprove_19 ?_
    refine lv_iload_n hx hb dX4_mayApprove_20 rfl (lv_at hl 1 rfl) ?_
    refine lv_icmp_eq (tgt := 28) hx hb dX4_mayApprove_21 (by decide) (fun c21 => ?_) (fun c21 => ?_)
    · refine lv_iconst (v := 0) hx hb dX4_mayApprove_28 (by decide) ?_
      exact gM_zret C hr narrow_b0 hP hS (by decide) (by decide) dX4_mayApprove_29 (Or.inr ⟨fun h => h.2 c21, rfl, rfl, rfl⟩)  -- end 0: h8_0 : gMM I x1 uu ((I 151 qq).toNatClampNeg) ; c21 : (I 150 qq) = x1
    · refine lv_iconst (v := 1) hx hb dX4_mayApprove_24 (by decide) ?_
      refine lv_goto (tgt := 29) hx hb dX4_mayApprove_25 (by decide) ?_
      exact gM_zret C hr narrow_b1 hP hS (by decide) (by decide) dX4_mayApprove_29 (Or.inl ⟨⟨h8_0, c21⟩, rfl, rfl, rfl⟩)  -- end 1: h8_0 : gMM I x1 uu ((I 151 qq).toNatClampNeg) ; c21 : ¬ (I 150 qq) = x1
  · refine lv_if_eq (tgt := 28) hx hb dX4_mayApprove_11 (by decide) (fun _ => ?_) (fun c => absurd c (by decide))
    refine lv_iconst (v := 0) hx hb dX4_mayApprove_28 (by decide) ?_
    exact gM_zret C hr narrow_b0 hP hS (by decide) (by decide) dX4_mayApprove_29 (Or.inr ⟨fun h => h8_0 h.1, rfl, rfl, rfl⟩)  -- end 2: h8_0 : ¬ gMM I x1 uu ((I 151 qq).toNatClampNeg)
def pq_X4_findPosts (pp : Nat) (nn : Nat) (x1 : Int32) (x2 : Int64) (I : MI) (L : ML) : MI → ML → Prop := fun I' L' => I = I' ∧ va_up L 153 (gpw x2 (gmS I pp) nn (L 153)) = L'
set_option maxRecDepth 100000 in
set_option maxHeartbeats 4000000 in
theorem ct_X4_findPosts (l : Launch) (D : va_G) (cy : Nat → ClassId) (ad : Nat → Nat) (hJ : gJ ad) (pp : Nat) (nn : Nat) (x1 : Int32) (x2 : Int64) (I : MI) (L : ML) (hx1 : x1 = nI pp) (hp : pp < 10) (hn : I 139 pp = nI nn) (hn4 : nn ≤ 4) : gMv l D cy ad yX4_findPosts cX4_findPosts 7 (gR 5 0 0) [.ref (ad 136), .int x1, .long x2] I L (pq_X4_findPosts pp nn x1 x2 I L) := by
  refine gMv_of hJ (by decide +kernel) kc_X4_findPosts (Nat.le_of_ble_eq_true rfl) (fun p e s m below meth c A ls C hr hP hS hl => ?_)
  have hx := C.hx
  have hb := C.hb
  have hl : lv_has ls 7 [(0, .ref (ad 136)), (1, .int x1), (2, .long x2)] := hl
  refine lv_lconst (v := 0) hx hb dX4_findPosts_0 (by decide) ?_
  refine lv_lstore (lv' := [(4, .long 0), (0, .ref (ad 136)), (1, .int x1), (2, .long x2)]) hx hb dX4_findPosts_1 hl (by decide) rfl (fun ls hl => ?_)
  refine lv_iconst (v := 0) hx hb dX4_findPosts_3 (by decide) ?_
  refine lv_istore (lv' := [(6, .int 0), (4, .long 0), (0, .ref (ad 136)), (1, .int x1), (2, .long x2)]) hx hb dX4_findPosts_4 hl (by decide) rfl (fun ls hl => ?_)
  have loop6 : ∀ (N : Nat) (i : Nat) (L1 : ML) (z : Int64) (hi : i ≤ nn) (hz : i < nn → z = gsq x2 (gmS I pp) i) (hL0 : ∀ c, c ≠ 153 → L1 c = L c) (hL1 : ∀ k, k < i → L1 153 k = gpo x2 (gmS I pp) nn k) (hL2 : ∀ k, i ≤ k → L1 153 k = L 153 k) (hfu : nn < i + N) (H : Heap) (locs : List Loc) (ls : Array Slot), gP D cy ad I L1 H → va_S A s.heap H locs → lv_has ls 7 [(0, .ref (ad 136)), (1, .int x1), (2, .long x2), (4, .long z), (6, .int (nI i))] → W p l e (gR 5 0 0) s m ([.ref (ad 136), .int x1, .long x2] : List Value).toArray below meth c H locs 0 0 (MQ below (gQv D cy ad A (pq_X4_findPosts pp nn x1 x2 I L)) ([.ref (ad 136), .int x1, .long x2] : List Value).toArray s 0 0 A) (F0 m 6 ls []) := by
    intro N
    induction N with
    | zero =>
      intro i L1 z hi hz hL0 hL1 hL2 hfu
      exact absurd hfu (by omega)
    | succ N ih6 =>
      intro i L1 z hi hz hL0 hL1 hL2 hfu H locs ls hP hS hl
      refine lv_iload hx hb dX4_findPosts_6 (lv_at hl 4 rfl) ?_
      refine lv_aload_n hx hb dX4_findPosts_8 rfl (lv_at hl 0 rfl) ?_
      refine g_get (v := .ref (ad 139)) (T := TX4) C hP 136 4 (by decide) rfl rfl inwX4 (by decide) kf_X4_16 rfl dX4_findPosts_9 ?_
      refine lv_iload_n hx hb dX4_findPosts_12 rfl (lv_at hl 1 rfl) ?_
      refine g_iald (v := nI nn) C hP 139 10 (by decide) (fun _ _ => rfl) pp hx1 hn (by omega) (by decide) dX4_findPosts_13 ?_
      refine lv_icmp_ge (tgt := 79) hx hb dX4_findPosts_14 (by decide) (fun c14 => ?_) (fun c14 => ?_)
      · have n14 : nn ≤ i := (nI_leeE rfl rfl (by omega) (by omega)).mp c14
        exact gM_vret C hr hP hS (by decide) (by decide) dX4_findPosts_79 (⟨rfl, fps_end (by omega) hL0 hL1 hL2⟩)  -- end 0: n14 : nn ≤ i
      · have n14 : ¬ nn ≤ i := (not_congr (nI_leeE rfl rfl (by omega) (by omega))).mp c14
        refine lv_aload_n hx hb dX4_findPosts_17 rfl (lv_at hl 0 rfl) ?_
        refine g_get (v := .ref (ad 153)) (T := TX4) C hP 136 19 (by decide) rfl rfl inwX4 (by decide) kf_X4_60 rfl dX4_findPosts_18 ?_
        refine lv_iload hx hb dX4_findPosts_21 (lv_at hl 4 rfl) ?_
        refine lv_iload hx hb dX4_findPosts_23 (lv_at hl 4 rfl) ?_
        refine lv_aload_n hx hb dX4_findPosts_25 rfl (lv_at hl 0 rfl) ?_
        refine g_get (v := .ref (ad 139)) (T := TX4) C hP 136 4 (by decide) rfl rfl inwX4 (by decide) kf_X4_16 rfl dX4_findPosts_26 ?_
        refine lv_iload_n hx hb dX4_findPosts_29 rfl (lv_at hl 1 rfl) ?_
        refine g_iald (v := nI nn) C hP 139 10 (by decide) (fun _ _ => rfl) pp hx1 hn (by omega) (by decide) dX4_findPosts_30 ?_
        refine lv_iconst (v := 1) hx hb dX4_findPosts_31 (by decide) ?_
        refine lv_isub hx hb dX4_findPosts_32 ?_
        refine lv_icmp_ne (tgt := 42) hx hb dX4_findPosts_33 (by decide) (fun c33 => ?_) (fun c33 => ?_)
        · have n33 : ¬ i = (nn - 1) := (not_congr (nI_eqqE rfl (nI_subE rfl (show (1 : Int32) = nI 1 from rfl) (by omega)) (by omega) (by omega))).mp c33
          refine lv_lload_n hx hb dX4_findPosts_42 rfl (lv_at hl 2 rfl) ?_
          refine lv_aload_n hx hb dX4_findPosts_43 rfl (lv_at hl 0 rfl) ?_
          refine g_get (v := .ref (ad 142)) (T := TX4) C hP 136 7 (by decide) rfl rfl inwX4 (by decide) kf_X4_26 rfl dX4_findPosts_44 ?_
          refine lv_iconst (v := 4) hx hb dX4_findPosts_47 (by decide) ?_
          refine lv_iload_n hx hb dX4_findPosts_48 rfl (lv_at hl 1 rfl) ?_
          refine lv_imul hx hb dX4_findPosts_49 ?_
          refine lv_iload hx hb dX4_findPosts_50 (lv_at hl 4 rfl) ?_
          refine lv_iadd hx hb dX4_findPosts_52 ?_
          refine g_iald (v := I 142 ((4 * pp) + i)) C hP 142 40 (by decide) (fun _ _ => rfl) ((4 * pp) + i) (nI_addE (nI_mulE (show (4 : Int32) = nI 4 from rfl) hx1) rfl) rfl (by omega) (by decide) dX4_findPosts_53 ?_
          refine lv_i2l (v := (I 142 ((4 * pp) + i)).toInt64) hx hb dX4_findPosts_54 rfl ?_
          refine lv_lmul hx hb dX4_findPosts_55 ?_
          refine lv_ldc2 (v := 100) hx hb C.hown (C.hts _ kcn_X4_98) dX4_findPosts_56 ?_
          refine lv_ldiv hx hb dX4_findPosts_59 (by decide) ?_
          refine g_last C hP hS 153 4 (by decide) (fun _ _ => rfl) i rfl (by omega) (by decide) dX4_findPosts_60 (fun H locs hP hS => ?_)
          refine lv_lload hx hb dX4_findPosts_61 (lv_at hl 3 rfl) ?_
          refine lv_aload_n hx hb dX4_findPosts_63 rfl (lv_at hl 0 rfl) ?_
          refine g_get (v := .ref (ad 153)) (T := TX4) C hP 136 19 (by decide) rfl rfl inwX4 (by decide) kf_X4_60 rfl dX4_findPosts_64 ?_
          refine lv_iload hx hb dX4_findPosts_67 (lv_at hl 4 rfl) ?_
          refine g_lald (v := (x2 * ((I 142 ((4 * pp) + i)).toInt64)) / 100) C hP 153 4 (by decide) (fun _ _ => rfl) i rfl sL_eq (by omega) (by decide) dX4_findPosts_69 ?_
          refine lv_ladd hx hb dX4_findPosts_70 ?_
          refine lv_lstore (lv' := [(4, .long (z + ((x2 * ((I 142 ((4 * pp) + i)).toInt64)) / 100))), (0, .ref (ad 136)), (1, .int x1), (2, .long x2), (6, .int (nI i))]) hx hb dX4_findPosts_71 hl (by decide) rfl (fun ls hl => ?_)
          refine lv_iinc (v := nI (i + 1)) (lv' := [(6, .int (nI (i + 1))), (4, .long (z + ((x2 * ((I 142 ((4 * pp) + i)).toInt64)) / 100))), (0, .ref (ad 136)), (1, .int x1), (2, .long x2)]) hx hb dX4_findPosts_73 hl (k := 4) rfl (nI_1 _) (by decide) rfl (fun ls hl => ?_)
          refine lv_goto (tgt := 6) hx hb dX4_findPosts_76 (by decide) ?_
          exact ih6 (i + 1) _ _ (by omega) (fun h => by rw [hz (by omega)]; rfl) (fun c hc => (sL_row hc).trans (hL0 c hc)) (fps_step (g := gpo x2 (gmS I pp) nn) (if_neg (by omega)).symm hL1) (fun k hk => by rw [sL_at, if_neg (fun z => by omega)]; exact hL2 k (by omega)) (by omega) _ _ _ hP hS (lv_sub hl [2, 3, 4, 1, 0] rfl)
        · have n33 : i = (nn - 1) := (nI_eqqE rfl (nI_subE rfl (show (1 : Int32) = nI 1 from rfl) (by omega)) (by omega) (by omega)).mp c33
          refine lv_lload hx hb dX4_findPosts_36 (lv_at hl 3 rfl) ?_
          refine lv_lneg hx hb dX4_findPosts_38 ?_
          refine lv_goto (tgt := 60) hx hb dX4_findPosts_39 (by decide) ?_
          refine g_last C hP hS 153 4 (by decide) (fun _ _ => rfl) i rfl (by omega) (by decide) dX4_findPosts_60 (fun H locs hP hS => ?_)
          refine lv_lload hx hb dX4_findPosts_61 (lv_at hl 3 rfl) ?_
          refine lv_aload_n hx hb dX4_findPosts_63 rfl (lv_at hl 0 rfl) ?_
          refine g_get (v := .ref (ad 153)) (T := TX4) C hP 136 19 (by decide) rfl rfl inwX4 (by decide) kf_X4_60 rfl dX4_findPosts_64 ?_
          refine lv_iload hx hb dX4_findPosts_67 (lv_at hl 4 rfl) ?_
          refine g_lald (v := -z) C hP 153 4 (by decide) (fun _ _ => rfl) i rfl sL_eq (by omega) (by decide) dX4_findPosts_69 ?_
          refine lv_ladd hx hb dX4_findPosts_70 ?_
          refine lv_lstore (lv' := [(4, .long (z + (-z))), (0, .ref (ad 136)), (1, .int x1), (2, .long x2), (6, .int (nI i))]) hx hb dX4_findPosts_71 hl (by decide) rfl (fun ls hl => ?_)
          refine lv_iinc (v := nI (i + 1)) (lv' := [(6, .int (nI (i + 1))), (4, .long (z + (-z))), (0, .ref (ad 136)), (1, .int x1), (2, .long x2)]) hx hb dX4_findPosts_73 hl (k := 4) rfl (nI_1 _) (by decide) rfl (fun ls hl => ?_)
          refine lv_goto (tgt := 6) hx hb dX4_findPosts_76 (by decide) ?_
          exact ih6 (i + 1) _ _ (by omega) (fun h => absurd h (by omega)) (fun c hc => (sL_row hc).trans (hL0 c hc)) (fps_step (g := gpo x2 (gmS I pp) nn) (by unfold gpo; rw [if_pos (by omega), hz (by omega)]) hL1) (fun k hk => by rw [sL_at, if_neg (fun z => by omega)]; exact hL2 k (by omega)) (by omega) _ _ _ hP hS (lv_sub hl [2, 3, 4, 1, 0] rfl)
  exact loop6 (nn + 1) 0 L 0 (Nat.zero_le _) (fun _ => rfl) (fun _ _ => rfl) (fun _ h => absurd h (Nat.not_lt_zero _)) (fun _ _ => rfl) (by omega) _ _ _ hP hS (lv_sub hl [2, 3, 4, 1, 0] rfl)
end
section
def pq_X4_run (pp : Nat) (nn : Nat) (x1 : Int32) (x2 : Int64) (x4 : Int64) (I : MI) (L : ML) : Int32 → MI → ML → Prop := fun r I' L' => ((∀ k, k < nn → ¬ gfl (gmA I pp) (L 137) (L 138) (fun k => x4 * gpw x2 (gmS I pp) nn (L 153) k) k) ∧ 1 = r ∧ I = I' ∧ (gRM (va_up L 153 (gpw x2 (gmS I pp) nn (L 153))) (gmA I pp) (fun k => x4 * gpw x2 (gmS I pp) nn (L 153) k) nn) = L') ∨ (¬ (∀ k, k < nn → ¬ gfl (gmA I pp) (L 137) (L 138) (fun k => x4 * gpw x2 (gmS I pp) nn (L 153) k) k) ∧ 0 = r ∧ I = I' ∧ (va_up L 153 (gpw x2 (gmS I pp) nn (L 153))) = L')
set_option maxRecDepth 100000 in
set_option maxHeartbeats 4000000 in
theorem ct_X4_run (l : Launch) (D : va_G) (cy : Nat → ClassId) (ad : Nat → Nat) (hJ : gJ ad) (pp : Nat) (nn : Nat) (x1 : Int32) (x2 : Int64) (x4 : Int64) (I : MI) (L : ML) (hx1 : x1 = nI pp) (hp : pp < 10) (hn : I 139 pp = nI nn) (hn4 : nn ≤ 4) (ha : ∀ k, k < nn → vp_in (I 141 (4 * pp + k)) 8) (hd : gdis (gmA I pp) nn) : gMi l D cy ad yX4_run cX4_run 11 .boolean (gR 3 0 0) [.ref (ad 136), .int x1, .long x2, .long x4] I L (pq_X4_run pp nn x1 x2 x4 I L) := by
  refine gMi_of hJ (by decide +kernel) kc_X4_run (Nat.le_of_ble_eq_true rfl) (fun p e s m below meth c A ls C hr hP hS hl => ?_)
  have hx := C.hx
  have hb := C.hb
  have hl : lv_has ls 11 [(0, .ref (ad 136)), (1, .int x1), (2, .long x2), (4, .long x4)] := hl
  refine lv_aload_n hx hb dX4_run_0 rfl (lv_at hl 0 rfl) ?_
  refine lv_iload_n hx hb dX4_run_1 rfl (lv_at hl 1 rfl) ?_
  refine lv_lload_n hx hb dX4_run_2 rfl (lv_at hl 2 rfl) ?_
  refine gM_callVv (As := [.int x1, .long x2]) (rest := []) C hP hS hl.1 (ct_X4_findPosts l D cy ad hJ pp nn x1 x2 I L hx1 hp hn hn4) fa_X4_findPosts kl_X4_100 ki_X4_findPosts kse_X4_findPosts (by decide) (T := TX4) rfl rfl rfl (by decide) (Nat.le_of_ble_eq_true rfl) (by decide) dX4_run_3 rfl (fun I3 L3 H locs hq hP hS => ?_)
  obtain ⟨rfl, rfl⟩ := hq
  refine lv_iconst (v := 0) hx hb dX4_run_6 (by decide) ?_
  refine lv_istore (lv' := [(6, .int 0), (0, .ref (ad 136)), (1, .int x1), (2, .long x2), (4, .long x4)]) hx hb dX4_run_7 hl (by decide) rfl (fun ls hl => ?_)
  refine lv_iconst (v := 1) hx hb dX4_run_9 (by decide) ?_
  refine lv_istore (lv' := [(7, .int 1), (6, .int 0), (0, .ref (ad 136)), (1, .int x1), (2, .long x2), (4, .long x4)]) hx hb dX4_run_10 hl (by decide) rfl (fun ls hl => ?_)
  have loop12 : ∀ (N : Nat) (i : Nat) (hi : i ≤ nn) (hno : ∀ k, k < i → ¬ gfl (gmA I pp) (L 137) (L 138) (fun k => x4 * gpw x2 (gmS I pp) nn (L 153) k) k) (hfu : nn < i + N) (H : Heap) (locs : List Loc) (ls : Array Slot), gP D cy ad I (gRM (va_up L 153 (gpw x2 (gmS I pp) nn (L 153))) (gmA I pp) (fun k => x4 * gpw x2 (gmS I pp) nn (L 153) k) i) H → va_S A s.heap H locs → lv_has ls 11 [(0, .ref (ad 136)), (1, .int x1), (2, .long x2), (4, .long x4), (6, .int (nI i)), (7, .int 1)] → W p l e (gR 3 0 0) s m ([.ref (ad 136), .int x1, .long x2, .long x4] : List Value).toArray below meth c H locs 0 0 (MQ below (gQi D cy ad A (pq_X4_run pp nn x1 x2 x4 I L)) ([.ref (ad 136), .int x1, .long x2, .long x4] : List Value).toArray s 0 0 A) (F0 m 12 ls []) := by
    intro N
    induction N with
    | zero =>
      intro i hi hno hfu
      exact absurd hfu (by omega)
    | succ N ih12 =>
      intro i hi hno hfu H locs ls hP hS hl
      refine lv_iload hx hb dX4_run_12 (lv_at hl 4 rfl) ?_
      refine lv_aload_n hx hb dX4_run_14 rfl (lv_at hl 0 rfl) ?_
      refine g_get (v := .ref (ad 139)) (T := TX4) C hP 136 4 (by decide) rfl rfl inwX4 (by decide) kf_X4_16 rfl dX4_run_15 ?_
      refine lv_iload_n hx hb dX4_run_18 rfl (lv_at hl 1 rfl) ?_
      refine g_iald (v := nI nn) C hP 139 10 (by decide) (fun _ _ => rfl) pp hx1 hn (by omega) (by decide) dX4_run_19 ?_
      refine lv_icmp_ge (tgt := 123) hx hb dX4_run_20 (by decide) (fun c20 => ?_) (fun c20 => ?_)
      · have n20 : nn ≤ i := (nI_leeE rfl rfl (by omega) (by omega)).mp c20
        refine lv_iconst (v := 0) hx hb dX4_run_123 (by decide) ?_
        refine lv_istore (lv' := [(8, .int 0), (0, .ref (ad 136)), (1, .int x1), (2, .long x2), (4, .long x4), (6, .int (nI i)), (7, .int 1)]) hx hb dX4_run_124 hl (by decide) rfl (fun ls hl => ?_)
        refine lv_iload hx hb dX4_run_126 (lv_at hl 0 rfl) ?_
        refine lv_iload hx hb dX4_run_128 (lv_at hl 5 rfl) ?_
        refine lv_icmp_ge (tgt := 182) hx hb dX4_run_130 (by decide) (fun c130 => ?_) (fun c130 => ?_)
        · have n130 : i ≤ 0 := (nI_leeE rfl (show (0 : Int32) = nI 0 from rfl) (by omega) (by omega)).mp c130
          refine lv_iload hx hb dX4_run_182 (lv_at hl 6 rfl) ?_
          exact gM_zret C hr narrow_b1 hP hS (by decide) (by decide) dX4_run_184 (Or.inl ⟨fun k hk => hno k (by omega), rfl, rfl, by rw [show nn = i by omega]⟩)  -- end 0: n20 : nn ≤ i ; n130 : i ≤ 0
        · have n130 : ¬ i ≤ 0 := (not_congr (nI_leeE rfl (show (0 : Int32) = nI 0 from rfl) (by omega) (by omega))).mp c130
          refine lv_iload hx hb dX4_run_133 (lv_at hl 6 rfl) ?_
          refine lv_if_ne (tgt := 182) hx hb dX4_run_135 (by decide) (fun _ => ?_) (fun c => absurd c (by decide))
          refine lv_iload hx hb dX4_run_182 (lv_at hl 6 rfl) ?_
          exact gM_zret C hr narrow_b1 hP hS (by decide) (by decide) dX4_run_184 (Or.inl ⟨fun k hk => hno k (by omega), rfl, rfl, by rw [show nn = i by omega]⟩)  -- end 1: n20 : nn ≤ i ; n130 : ¬ i ≤ 0
      · have n20 : ¬ nn ≤ i := (not_congr (nI_leeE rfl rfl (by omega) (by omega))).mp c20
        refine lv_iload hx hb dX4_run_23 (lv_at hl 5 rfl) ?_
        refine lv_if_eq (tgt := 123) hx hb dX4_run_25 (by decide) (fun c => absurd c (by decide)) (fun _ => ?_)
        refine lv_aload_n hx hb dX4_run_28 rfl (lv_at hl 0 rfl) ?_
        refine g_get (v := .ref (ad 141)) (T := TX4) C hP 136 6 (by decide) rfl rfl inwX4 (by decide) kf_X4_23 rfl dX4_run_29 ?_
        refine lv_iconst (v := 4) hx hb dX4_run_32 (by decide) ?_
        refine lv_iload_n hx hb dX4_run_33 rfl (lv_at hl 1 rfl) ?_
        refine lv_imul hx hb dX4_run_34 ?_
        refine lv_iload hx hb dX4_run_35 (lv_at hl 4 rfl) ?_
        refine lv_iadd hx hb dX4_run_37 ?_
        refine g_iald (v := I 141 ((4 * pp) + i)) C hP 141 40 (by decide) (fun _ _ => rfl) ((4 * pp) + i) (nI_addE (nI_mulE (show (4 : Int32) = nI 4 from rfl) hx1) rfl) rfl (by omega) (by decide) dX4_run_38 ?_
        obtain ⟨e39, l39⟩ := vp_ix (ha i (by omega))
        refine lv_istore (lv' := [(8, .int (I 141 ((4 * pp) + i))), (0, .ref (ad 136)), (1, .int x1), (2, .long x2), (4, .long x4), (6, .int (nI i)), (7, .int 1)]) hx hb dX4_run_39 hl (by decide) rfl (fun ls hl => ?_)
        refine lv_aload_n hx hb dX4_run_41 rfl (lv_at hl 1 rfl) ?_
        refine g_get (v := .ref (ad 137)) (T := TX4) C hP 136 1 (by decide) rfl rfl inwX4 (by decide) kf_X4_7 rfl dX4_run_42 ?_
        refine lv_iload hx hb dX4_run_45 (lv_at hl 0 rfl) ?_
        refine g_lald (v := L 137 ((I 141 ((4 * pp) + i)).toNatClampNeg)) C hP 137 8 (by decide) (fun _ _ => rfl) ((I 141 ((4 * pp) + i)).toNatClampNeg) e39 (gRM_a (L := (va_up L 153 (gpw x2 (gmS I pp) nn (L 153)))) (po := (fun k => x4 * gpw x2 (gmS I pp) nn (L 153) k)) hd (by omega)) (by omega) (by decide) dX4_run_47 ?_
        refine lv_lload hx hb dX4_run_48 (lv_at hl 4 rfl) ?_
        refine lv_aload_n hx hb dX4_run_50 rfl (lv_at hl 1 rfl) ?_
        refine g_get (v := .ref (ad 153)) (T := TX4) C hP 136 19 (by decide) rfl rfl inwX4 (by decide) kf_X4_60 rfl dX4_run_51 ?_
        refine lv_iload hx hb dX4_run_54 (lv_at hl 5 rfl) ?_
        refine g_lald (v := gpw x2 (gmS I pp) nn (L 153) i) C hP 153 4 (by decide) (fun _ _ => rfl) i rfl rfl (by omega) (by decide) dX4_run_56 ?_
        refine lv_lmul hx hb dX4_run_57 ?_
        refine lv_ladd hx hb dX4_run_58 ?_
        refine lv_lstore (lv' := [(9, .long ((L 137 ((I 141 ((4 * pp) + i)).toNatClampNeg)) + (x4 * (gpw x2 (gmS I pp) nn (L 153) i)))), (8, .int (I 141 ((4 * pp) + i))), (0, .ref (ad 136)), (1, .int x1), (2, .long x2), (4, .long x4), (6, .int (nI i)), (7, .int 1)]) hx hb dX4_run_59 hl (by decide) rfl (fun ls hl => ?_)
        refine lv_lload hx hb dX4_run_61 (lv_at hl 0 rfl) ?_
        refine lv_ldc2 (v := 1000000000000) hx hb C.hown (C.hts _ kcn_X4_96) dX4_run_63 ?_
        refine W.lcmp hx hb dX4_run_66 ?_
        refine lv_if_gt (tgt := 100) hx hb dX4_run_67 (by decide) (fun c67 => ?_) (fun c67 => ?_)
        · have n67 : 1000000000000 < ((L 137 ((I 141 ((4 * pp) + i)).toNatClampNeg)) + (x4 * (gpw x2 (gmS I pp) nn (L 153) i))) := (lg_cmp_gt _ _).mp c67
          refine lv_iconst (v := 0) hx hb dX4_run_100 (by decide) ?_
          refine lv_istore (lv' := [(7, .int 0), (9, .long ((L 137 ((I 141 ((4 * pp) + i)).toNatClampNeg)) + (x4 * (gpw x2 (gmS I pp) nn (L 153) i)))), (8, .int (I 141 ((4 * pp) + i))), (0, .ref (ad 136)), (1, .int x1), (2, .long x2), (4, .long x4), (6, .int (nI i))]) hx hb dX4_run_101 hl (by decide) rfl (fun ls hl => ?_)
          refine lv_iload hx hb dX4_run_103 (lv_at hl 0 rfl) ?_
          refine lv_if_eq (tgt := 120) hx hb dX4_run_105 (by decide) (fun _ => ?_) (fun c => absurd c (by decide))
          refine lv_goto (tgt := 12) hx hb dX4_run_120 (by decide) ?_
          refine lv_iload hx hb dX4_run_12 (lv_at hl 7 rfl) ?_
          refine lv_aload_n hx hb dX4_run_14 rfl (lv_at hl 3 rfl) ?_
          refine g_get (v := .ref (ad 139)) (T := TX4) C hP 136 4 (by decide) rfl rfl inwX4 (by decide) kf_X4_16 rfl dX4_run_15 ?_
          refine lv_iload_n hx hb dX4_run_18 rfl (lv_at hl 4 rfl) ?_
          refine g_iald (v := nI nn) C hP 139 10 (by decide) (fun _ _ => rfl) pp hx1 hn (by omega) (by decide) dX4_run_19 ?_
          refine lv_icmp_ge (tgt := 123) hx hb dX4_run_20 (by decide) (fun c20 => absurd ((nI_leeE rfl rfl (by omega) (by omega)).mp c20) n20) (fun c20 => ?_)
          have n20 : ¬ nn ≤ i := (not_congr (nI_leeE rfl rfl (by omega) (by omega))).mp c20
          refine lv_iload hx hb dX4_run_23 (lv_at hl 0 rfl) ?_
          refine lv_if_eq (tgt := 123) hx hb dX4_run_25 (by decide) (fun _ => ?_) (fun c => absurd c (by decide))
          refine lv_iconst (v := 0) hx hb dX4_run_123 (by decide) ?_
          refine lv_istore (lv' := [(8, .int 0), (7, .int 0), (9, .long ((L 137 ((I 141 ((4 * pp) + i)).toNatClampNeg)) + (x4 * (gpw x2 (gmS I pp) nn (L 153) i)))), (0, .ref (ad 136)), (1, .int x1), (2, .long x2), (4, .long x4), (6, .int (nI i))]) hx hb dX4_run_124 hl (by decide) rfl (fun ls hl => ?_)
          have loop126 : ∀ (N : Nat) (k : Nat) (hk : k ≤ i) (hfu : i < k + N) (H : Heap) (locs : List Loc) (ls : Array Slot), gP D cy ad I (gUM (va_up L 153 (gpw x2 (gmS I pp) nn (L 153))) (gmA I pp) (fun k => x4 * gpw x2 (gmS I pp) nn (L 153) k) i k) H → va_S A s.heap H locs → lv_has ls 11 [(0, .ref (ad 136)), (1, .int x1), (2, .long x2), (4, .long x4), (6, .int (nI i)), (7, .int 0), (8, .int (nI k))] → W p l e (gR 3 0 0) s m ([.ref (ad 136), .int x1, .long x2, .long x4] : List Value).toArray below meth c H locs 0 0 (MQ below (gQi D cy ad A (pq_X4_run pp nn x1 x2 x4 I L)) ([.ref (ad 136), .int x1, .long x2, .long x4] : List Value).toArray s 0 0 A) (F0 m 126 ls []) := by
            intro N
            induction N with
            | zero =>
              intro k hk hfu
              exact absurd hfu (by omega)
            | succ N ih126 =>
              intro k hk hfu H locs ls hP hS hl
              refine lv_iload hx hb dX4_run_126 (lv_at hl 6 rfl) ?_
              refine lv_iload hx hb dX4_run_128 (lv_at hl 4 rfl) ?_
              refine lv_icmp_ge (tgt := 182) hx hb dX4_run_130 (by decide) (fun c130 => ?_) (fun c130 => ?_)
              · have n130 : i ≤ k := (nI_leeE rfl rfl (by omega) (by omega)).mp c130
                refine lv_iload hx hb dX4_run_182 (lv_at hl 5 rfl) ?_
                exact gM_zret C hr narrow_b0 hP hS (by decide) (by decide) dX4_run_184 (Or.inr ⟨fun z => z i (by omega) (Or.inl n67), rfl, rfl, by rw [show k = i by omega]; exact (gUM_i _ _ _ _).symm⟩)  -- end 2: n20 : ¬ nn ≤ i ; n67 : 1000000000000 < ((L 137 ((I 141 ((4 * pp) + i)).toNatClampNeg)) + (x4 * (gpw x2 (gmS I pp) nn (L 153) i))) ; n20 : ¬ nn ≤ i ; n130 : i ≤ k
              · have n130 : ¬ i ≤ k := (not_congr (nI_leeE rfl rfl (by omega) (by omega))).mp c130
                refine lv_iload hx hb dX4_run_133 (lv_at hl 5 rfl) ?_
                refine lv_if_ne (tgt := 182) hx hb dX4_run_135 (by decide) (fun c => absurd c (by decide)) (fun _ => ?_)
                refine lv_aload_n hx hb dX4_run_138 rfl (lv_at hl 0 rfl) ?_
                refine g_get (v := .ref (ad 141)) (T := TX4) C hP 136 6 (by decide) rfl rfl inwX4 (by decide) kf_X4_23 rfl dX4_run_139 ?_
                refine lv_iconst (v := 4) hx hb dX4_run_142 (by decide) ?_
                refine lv_iload_n hx hb dX4_run_143 rfl (lv_at hl 1 rfl) ?_
                refine lv_imul hx hb dX4_run_144 ?_
                refine lv_iload hx hb dX4_run_145 (lv_at hl 6 rfl) ?_
                refine lv_iadd hx hb dX4_run_147 ?_
                refine g_iald (v := I 141 ((4 * pp) + k)) C hP 141 40 (by decide) (fun _ _ => rfl) ((4 * pp) + k) (nI_addE (nI_mulE (show (4 : Int32) = nI 4 from rfl) hx1) rfl) rfl (by omega) (by decide) dX4_run_148 ?_
                obtain ⟨e149, l149⟩ := vp_ix (ha k (by omega))
                refine lv_istore (lv' := [(9, .int (I 141 ((4 * pp) + k))), (0, .ref (ad 136)), (1, .int x1), (2, .long x2), (4, .long x4), (6, .int (nI i)), (7, .int 0), (8, .int (nI k))]) hx hb dX4_run_149 hl (by decide) rfl (fun ls hl => ?_)
                refine lv_aload_n hx hb dX4_run_151 rfl (lv_at hl 1 rfl) ?_
                refine g_get (v := .ref (ad 137)) (T := TX4) C hP 136 1 (by decide) rfl rfl inwX4 (by decide) kf_X4_7 rfl dX4_run_152 ?_
                refine lv_iload hx hb dX4_run_155 (lv_at hl 0 rfl) ?_
                refine lv_aload_n hx hb dX4_run_157 rfl (lv_at hl 1 rfl) ?_
                refine g_get (v := .ref (ad 137)) (T := TX4) C hP 136 1 (by decide) rfl rfl inwX4 (by decide) kf_X4_7 rfl dX4_run_158 ?_
                refine lv_iload hx hb dX4_run_161 (lv_at hl 0 rfl) ?_
                refine g_lald (v := (gUM (va_up L 153 (gpw x2 (gmS I pp) nn (L 153))) (gmA I pp) (fun k => x4 * gpw x2 (gmS I pp) nn (L 153) k) i k) 137 ((I 141 ((4 * pp) + k)).toNatClampNeg)) C hP 137 8 (by decide) (fun _ _ => rfl) ((I 141 ((4 * pp) + k)).toNatClampNeg) e149 rfl (by omega) (by decide) dX4_run_163 ?_
                refine lv_lload hx hb dX4_run_164 (lv_at hl 4 rfl) ?_
                refine lv_aload_n hx hb dX4_run_166 rfl (lv_at hl 1 rfl) ?_
                refine g_get (v := .ref (ad 153)) (T := TX4) C hP 136 19 (by decide) rfl rfl inwX4 (by decide) kf_X4_60 rfl dX4_run_167 ?_
                refine lv_iload hx hb dX4_run_170 (lv_at hl 7 rfl) ?_
                refine g_lald (v := gpw x2 (gmS I pp) nn (L 153) k) C hP 153 4 (by decide) (fun _ _ => rfl) k rfl rfl (by omega) (by decide) dX4_run_172 ?_
                refine lv_lmul hx hb dX4_run_173 ?_
                refine lv_lsub hx hb dX4_run_174 ?_
                refine g_last C hP hS 137 8 (by decide) (fun _ _ => rfl) ((I 141 ((4 * pp) + k)).toNatClampNeg) e149 (by omega) (by decide) dX4_run_175 (fun H locs hP hS => ?_)
                refine lv_iinc (v := nI (k + 1)) (lv' := [(8, .int (nI (k + 1))), (9, .int (I 141 ((4 * pp) + k))), (0, .ref (ad 136)), (1, .int x1), (2, .long x2), (4, .long x4), (6, .int (nI i)), (7, .int 0)]) hx hb dX4_run_176 hl (k := 7) rfl (nI_1 _) (by decide) rfl (fun ls hl => ?_)
                refine lv_goto (tgt := 126) hx hb dX4_run_179 (by decide) ?_
                have e179 : (sL (gUM (va_up L 153 (gpw x2 (gmS I pp) nn (L 153))) (gmA I pp) (fun k => x4 * gpw x2 (gmS I pp) nn (L 153) k) i k) 137 ((I 141 ((4 * pp) + k)).toNatClampNeg) (((gUM (va_up L 153 (gpw x2 (gmS I pp) nn (L 153))) (gmA I pp) (fun k => x4 * gpw x2 (gmS I pp) nn (L 153) k) i k) 137 ((I 141 ((4 * pp) + k)).toNatClampNeg)) - (x4 * (gpw x2 (gmS I pp) nn (L 153) k)))) = (gUM (va_up L 153 (gpw x2 (gmS I pp) nn (L 153))) (gmA I pp) (fun k => x4 * gpw x2 (gmS I pp) nn (L 153) k) i (k + 1)) := gUM_s _ _ _ _ _ _ rfl
                rw [e179] at hP
                exact ih126 (k + 1) (by omega) (by omega) _ _ _ hP hS (lv_sub hl [2, 3, 4, 5, 6, 7, 0] rfl)
          exact loop126 (i + 1) 0 (Nat.zero_le _) (by omega) _ _ _ (by rw [gUM_0]; exact hP) hS (lv_sub hl [3, 4, 5, 6, 7, 1, 0] rfl)
        · have n67 : ¬ 1000000000000 < ((L 137 ((I 141 ((4 * pp) + i)).toNatClampNeg)) + (x4 * (gpw x2 (gmS I pp) nn (L 153) i))) := (not_congr (lg_cmp_gt _ _)).mp c67
          refine lv_lload hx hb dX4_run_70 (lv_at hl 0 rfl) ?_
          refine lv_aload_n hx hb dX4_run_72 rfl (lv_at hl 2 rfl) ?_
          refine g_get (v := .ref (ad 138)) (T := TX4) C hP 136 2 (by decide) rfl rfl inwX4 (by decide) kf_X4_13 rfl dX4_run_73 ?_
          refine lv_iload hx hb dX4_run_76 (lv_at hl 1 rfl) ?_
          refine g_lald (v := L 138 ((I 141 ((4 * pp) + i)).toNatClampNeg)) C hP 138 8 (by decide) (fun _ _ => rfl) ((I 141 ((4 * pp) + i)).toNatClampNeg) e39 rfl (by omega) (by decide) dX4_run_78 ?_
          refine W.lcmp hx hb dX4_run_79 ?_
          refine lv_if_ge (tgt := 96) hx hb dX4_run_80 (by decide) (fun c80 => ?_) (fun c80 => ?_)
          · have n80 : (L 138 ((I 141 ((4 * pp) + i)).toNatClampNeg)) ≤ ((L 137 ((I 141 ((4 * pp) + i)).toNatClampNeg)) + (x4 * (gpw x2 (gmS I pp) nn (L 153) i))) := (lg_cmp_ge _ _).mp c80
            refine lv_iconst (v := 1) hx hb dX4_run_96 (by decide) ?_
            refine lv_goto (tgt := 101) hx hb dX4_run_97 (by decide) ?_
            refine lv_istore (lv' := [(7, .int 1), (9, .long ((L 137 ((I 141 ((4 * pp) + i)).toNatClampNeg)) + (x4 * (gpw x2 (gmS I pp) nn (L 153) i)))), (8, .int (I 141 ((4 * pp) + i))), (0, .ref (ad 136)), (1, .int x1), (2, .long x2), (4, .long x4), (6, .int (nI i))]) hx hb dX4_run_101 hl (by decide) rfl (fun ls hl => ?_)
            refine lv_iload hx hb dX4_run_103 (lv_at hl 0 rfl) ?_
            refine lv_if_eq (tgt := 120) hx hb dX4_run_105 (by decide) (fun c => absurd c (by decide)) (fun _ => ?_)
            refine lv_aload_n hx hb dX4_run_108 rfl (lv_at hl 3 rfl) ?_
            refine g_get (v := .ref (ad 137)) (T := TX4) C hP 136 1 (by decide) rfl rfl inwX4 (by decide) kf_X4_7 rfl dX4_run_109 ?_
            refine lv_iload hx hb dX4_run_112 (lv_at hl 2 rfl) ?_
            refine lv_lload hx hb dX4_run_114 (lv_at hl 1 rfl) ?_
            refine g_last C hP hS 137 8 (by decide) (fun _ _ => rfl) ((I 141 ((4 * pp) + i)).toNatClampNeg) e39 (by omega) (by decide) dX4_run_116 (fun H locs hP hS => ?_)
            refine lv_iinc (v := nI (i + 1)) (lv' := [(6, .int (nI (i + 1))), (7, .int 1), (9, .long ((L 137 ((I 141 ((4 * pp) + i)).toNatClampNeg)) + (x4 * (gpw x2 (gmS I pp) nn (L 153) i)))), (8, .int (I 141 ((4 * pp) + i))), (0, .ref (ad 136)), (1, .int x1), (2, .long x2), (4, .long x4)]) hx hb dX4_run_117 hl (k := 7) rfl (nI_1 _) (by decide) rfl (fun ls hl => ?_)
            refine lv_goto (tgt := 12) hx hb dX4_run_120 (by decide) ?_
            have e120 : (sL (gRM (va_up L 153 (gpw x2 (gmS I pp) nn (L 153))) (gmA I pp) (fun k => x4 * gpw x2 (gmS I pp) nn (L 153) k) i) 137 ((I 141 ((4 * pp) + i)).toNatClampNeg) ((L 137 ((I 141 ((4 * pp) + i)).toNatClampNeg)) + (x4 * (gpw x2 (gmS I pp) nn (L 153) i)))) = (gRM (va_up L 153 (gpw x2 (gmS I pp) nn (L 153))) (gmA I pp) (fun k => x4 * gpw x2 (gmS I pp) nn (L 153) k) (i + 1)) := gRM_s (L := (va_up L 153 (gpw x2 (gmS I pp) nn (L 153)))) (po := (fun k => x4 * gpw x2 (gmS I pp) nn (L 153) k)) hd (by omega)
            rw [e120] at hP
            exact ih12 (i + 1) (by omega) (lt_s hno (fun z => z.elim (fun z => n67 z) (fun z => Int64.not_lt.mpr n80 z.1))) (by omega) _ _ _ hP hS (lv_sub hl [4, 5, 6, 7, 0, 1] rfl)
          · have n80 : ¬ (L 138 ((I 141 ((4 * pp) + i)).toNatClampNeg)) ≤ ((L 137 ((I 141 ((4 * pp) + i)).toNatClampNeg)) + (x4 * (gpw x2 (gmS I pp) nn (L 153) i))) := (not_congr (lg_cmp_ge _ _)).mp c80
            refine lv_lload hx hb dX4_run_83 (lv_at hl 0 rfl) ?_
            refine lv_aload_n hx hb dX4_run_85 rfl (lv_at hl 2 rfl) ?_
            refine g_get (v := .ref (ad 137)) (T := TX4) C hP 136 1 (by decide) rfl rfl inwX4 (by decide) kf_X4_7 rfl dX4_run_86 ?_
            refine lv_iload hx hb dX4_run_89 (lv_at hl 1 rfl) ?_
            refine g_lald (v := L 137 ((I 141 ((4 * pp) + i)).toNatClampNeg)) C hP 137 8 (by decide) (fun _ _ => rfl) ((I 141 ((4 * pp) + i)).toNatClampNeg) e39 (gRM_a (L := (va_up L 153 (gpw x2 (gmS I pp) nn (L 153)))) (po := (fun k => x4 * gpw x2 (gmS I pp) nn (L 153) k)) hd (by omega)) (by omega) (by decide) dX4_run_91 ?_
            refine W.lcmp hx hb dX4_run_92 ?_
            refine lv_if_lt (tgt := 100) hx hb dX4_run_93 (by decide) (fun c93 => ?_) (fun c93 => ?_)
            · have n93 : ((L 137 ((I 141 ((4 * pp) + i)).toNatClampNeg)) + (x4 * (gpw x2 (gmS I pp) nn (L 153) i))) < (L 137 ((I 141 ((4 * pp) + i)).toNatClampNeg)) := (lg_cmp_lt _ _).mp c93
              refine lv_iconst (v := 0) hx hb dX4_run_100 (by decide) ?_
              refine lv_istore (lv' := [(7, .int 0), (9, .long ((L 137 ((I 141 ((4 * pp) + i)).toNatClampNeg)) + (x4 * (gpw x2 (gmS I pp) nn (L 153) i)))), (8, .int (I 141 ((4 * pp) + i))), (0, .ref (ad 136)), (1, .int x1), (2, .long x2), (4, .long x4), (6, .int (nI i))]) hx hb dX4_run_101 hl (by decide) rfl (fun ls hl => ?_)
              refine lv_iload hx hb dX4_run_103 (lv_at hl 0 rfl) ?_
              refine lv_if_eq (tgt := 120) hx hb dX4_run_105 (by decide) (fun _ => ?_) (fun c => absurd c (by decide))
              refine lv_goto (tgt := 12) hx hb dX4_run_120 (by decide) ?_
              refine lv_iload hx hb dX4_run_12 (lv_at hl 7 rfl) ?_
              refine lv_aload_n hx hb dX4_run_14 rfl (lv_at hl 3 rfl) ?_
              refine g_get (v := .ref (ad 139)) (T := TX4) C hP 136 4 (by decide) rfl rfl inwX4 (by decide) kf_X4_16 rfl dX4_run_15 ?_
              refine lv_iload_n hx hb dX4_run_18 rfl (lv_at hl 4 rfl) ?_
              refine g_iald (v := nI nn) C hP 139 10 (by decide) (fun _ _ => rfl) pp hx1 hn (by omega) (by decide) dX4_run_19 ?_
              refine lv_icmp_ge (tgt := 123) hx hb dX4_run_20 (by decide) (fun c20 => absurd ((nI_leeE rfl rfl (by omega) (by omega)).mp c20) n20) (fun c20 => ?_)
              have n20 : ¬ nn ≤ i := (not_congr (nI_leeE rfl rfl (by omega) (by omega))).mp c20
              refine lv_iload hx hb dX4_run_23 (lv_at hl 0 rfl) ?_
              refine lv_if_eq (tgt := 123) hx hb dX4_run_25 (by decide) (fun _ => ?_) (fun c => absurd c (by decide))
              refine lv_iconst (v := 0) hx hb dX4_run_123 (by decide) ?_
              refine lv_istore (lv' := [(8, .int 0), (7, .int 0), (9, .long ((L 137 ((I 141 ((4 * pp) + i)).toNatClampNeg)) + (x4 * (gpw x2 (gmS I pp) nn (L 153) i)))), (0, .ref (ad 136)), (1, .int x1), (2, .long x2), (4, .long x4), (6, .int (nI i))]) hx hb dX4_run_124 hl (by decide) rfl (fun ls hl => ?_)
              have loop126 : ∀ (N : Nat) (k : Nat) (hk : k ≤ i) (hfu : i < k + N) (H : Heap) (locs : List Loc) (ls : Array Slot), gP D cy ad I (gUM (va_up L 153 (gpw x2 (gmS I pp) nn (L 153))) (gmA I pp) (fun k => x4 * gpw x2 (gmS I pp) nn (L 153) k) i k) H → va_S A s.heap H locs → lv_has ls 11 [(0, .ref (ad 136)), (1, .int x1), (2, .long x2), (4, .long x4), (6, .int (nI i)), (7, .int 0), (8, .int (nI k))] → W p l e (gR 3 0 0) s m ([.ref (ad 136), .int x1, .long x2, .long x4] : List Value).toArray below meth c H locs 0 0 (MQ below (gQi D cy ad A (pq_X4_run pp nn x1 x2 x4 I L)) ([.ref (ad 136), .int x1, .long x2, .long x4] : List Value).toArray s 0 0 A) (F0 m 126 ls []) := by
                intro N
                induction N with
                | zero =>
                  intro k hk hfu
                  exact absurd hfu (by omega)
                | succ N ih126 =>
                  intro k hk hfu H locs ls hP hS hl
                  refine lv_iload hx hb dX4_run_126 (lv_at hl 6 rfl) ?_
                  refine lv_iload hx hb dX4_run_128 (lv_at hl 4 rfl) ?_
                  refine lv_icmp_ge (tgt := 182) hx hb dX4_run_130 (by decide) (fun c130 => ?_) (fun c130 => ?_)
                  · have n130 : i ≤ k := (nI_leeE rfl rfl (by omega) (by omega)).mp c130
                    refine lv_iload hx hb dX4_run_182 (lv_at hl 5 rfl) ?_
                    exact gM_zret C hr narrow_b0 hP hS (by decide) (by decide) dX4_run_184 (Or.inr ⟨fun z => z i (by omega) (Or.inr ⟨Int64.not_le.mp n80, n93⟩), rfl, rfl, by rw [show k = i by omega]; exact (gUM_i _ _ _ _).symm⟩)  -- end 3: n20 : ¬ nn ≤ i ; n67 : ¬ 1000000000000 < ((L 137 ((I 141 ((4 * pp) + i)).toNatClampNeg)) + (x4 * (gpw x2 (gmS I pp) nn (L 153) i))) ; n80 : ¬ (L 138 ((I 141 ((4 * pp) + i)).toNatClampNeg)) ≤ ((L 137 ((I 141 ((4 * pp) + i)).toNatClampNeg)) + (x4 * (gpw x2 (gmS I pp) nn (L 153) i))) ; n93 : ((L 137 ((I 141 ((4 * pp) + i)).toNatClampNeg)) + (x4 * (gpw x2 (gmS I pp) nn (L 153) i))) < (L 137 ((I 141 ((4 * pp) + i)).toNatClampNeg)) ; n20 : ¬ nn ≤ i ; n130 : i ≤ k
                  · have n130 : ¬ i ≤ k := (not_congr (nI_leeE rfl rfl (by omega) (by omega))).mp c130
                    refine lv_iload hx hb dX4_run_133 (lv_at hl 5 rfl) ?_
                    refine lv_if_ne (tgt := 182) hx hb dX4_run_135 (by decide) (fun c => absurd c (by decide)) (fun _ => ?_)
                    refine lv_aload_n hx hb dX4_run_138 rfl (lv_at hl 0 rfl) ?_
                    refine g_get (v := .ref (ad 141)) (T := TX4) C hP 136 6 (by decide) rfl rfl inwX4 (by decide) kf_X4_23 rfl dX4_run_139 ?_
                    refine lv_iconst (v := 4) hx hb dX4_run_142 (by decide) ?_
                    refine lv_iload_n hx hb dX4_run_143 rfl (lv_at hl 1 rfl) ?_
                    refine lv_imul hx hb dX4_run_144 ?_
                    refine lv_iload hx hb dX4_run_145 (lv_at hl 6 rfl) ?_
                    refine lv_iadd hx hb dX4_run_147 ?_
                    refine g_iald (v := I 141 ((4 * pp) + k)) C hP 141 40 (by decide) (fun _ _ => rfl) ((4 * pp) + k) (nI_addE (nI_mulE (show (4 : Int32) = nI 4 from rfl) hx1) rfl) rfl (by omega) (by decide) dX4_run_148 ?_
                    obtain ⟨e149, l149⟩ := vp_ix (ha k (by omega))
                    refine lv_istore (lv' := [(9, .int (I 141 ((4 * pp) + k))), (0, .ref (ad 136)), (1, .int x1), (2, .long x2), (4, .long x4), (6, .int (nI i)), (7, .int 0), (8, .int (nI k))]) hx hb dX4_run_149 hl (by decide) rfl (fun ls hl => ?_)
                    refine lv_aload_n hx hb dX4_run_151 rfl (lv_at hl 1 rfl) ?_
                    refine g_get (v := .ref (ad 137)) (T := TX4) C hP 136 1 (by decide) rfl rfl inwX4 (by decide) kf_X4_7 rfl dX4_run_152 ?_
                    refine lv_iload hx hb dX4_run_155 (lv_at hl 0 rfl) ?_
                    refine lv_aload_n hx hb dX4_run_157 rfl (lv_at hl 1 rfl) ?_
                    refine g_get (v := .ref (ad 137)) (T := TX4) C hP 136 1 (by decide) rfl rfl inwX4 (by decide) kf_X4_7 rfl dX4_run_158 ?_
                    refine lv_iload hx hb dX4_run_161 (lv_at hl 0 rfl) ?_
                    refine g_lald (v := (gUM (va_up L 153 (gpw x2 (gmS I pp) nn (L 153))) (gmA I pp) (fun k => x4 * gpw x2 (gmS I pp) nn (L 153) k) i k) 137 ((I 141 ((4 * pp) + k)).toNatClampNeg)) C hP 137 8 (by decide) (fun _ _ => rfl) ((I 141 ((4 * pp) + k)).toNatClampNeg) e149 rfl (by omega) (by decide) dX4_run_163 ?_
                    refine lv_lload hx hb dX4_run_164 (lv_at hl 4 rfl) ?_
                    refine lv_aload_n hx hb dX4_run_166 rfl (lv_at hl 1 rfl) ?_
                    refine g_get (v := .ref (ad 153)) (T := TX4) C hP 136 19 (by decide) rfl rfl inwX4 (by decide) kf_X4_60 rfl dX4_run_167 ?_
                    refine lv_iload hx hb dX4_run_170 (lv_at hl 7 rfl) ?_
                    refine g_lald (v := gpw x2 (gmS I pp) nn (L 153) k) C hP 153 4 (by decide) (fun _ _ => rfl) k rfl rfl (by omega) (by decide) dX4_run_172 ?_
                    refine lv_lmul hx hb dX4_run_173 ?_
                    refine lv_lsub hx hb dX4_run_174 ?_
                    refine g_last C hP hS 137 8 (by decide) (fun _ _ => rfl) ((I 141 ((4 * pp) + k)).toNatClampNeg) e149 (by omega) (by decide) dX4_run_175 (fun H locs hP hS => ?_)
                    refine lv_iinc (v := nI (k + 1)) (lv' := [(8, .int (nI (k + 1))), (9, .int (I 141 ((4 * pp) + k))), (0, .ref (ad 136)), (1, .int x1), (2, .long x2), (4, .long x4), (6, .int (nI i)), (7, .int 0)]) hx hb dX4_run_176 hl (k := 7) rfl (nI_1 _) (by decide) rfl (fun ls hl => ?_)
                    refine lv_goto (tgt := 126) hx hb dX4_run_179 (by decide) ?_
                    have e179 : (sL (gUM (va_up L 153 (gpw x2 (gmS I pp) nn (L 153))) (gmA I pp) (fun k => x4 * gpw x2 (gmS I pp) nn (L 153) k) i k) 137 ((I 141 ((4 * pp) + k)).toNatClampNeg) (((gUM (va_up L 153 (gpw x2 (gmS I pp) nn (L 153))) (gmA I pp) (fun k => x4 * gpw x2 (gmS I pp) nn (L 153) k) i k) 137 ((I 141 ((4 * pp) + k)).toNatClampNeg)) - (x4 * (gpw x2 (gmS I pp) nn (L 153) k)))) = (gUM (va_up L 153 (gpw x2 (gmS I pp) nn (L 153))) (gmA I pp) (fun k => x4 * gpw x2 (gmS I pp) nn (L 153) k) i (k + 1)) := gUM_s _ _ _ _ _ _ rfl
                    rw [e179] at hP
                    exact ih126 (k + 1) (by omega) (by omega) _ _ _ hP hS (lv_sub hl [2, 3, 4, 5, 6, 7, 0] rfl)
              exact loop126 (i + 1) 0 (Nat.zero_le _) (by omega) _ _ _ (by rw [gUM_0]; exact hP) hS (lv_sub hl [3, 4, 5, 6, 7, 1, 0] rfl)
            · have n93 : ¬ ((L 137 ((I 141 ((4 * pp) + i)).toNatClampNeg)) + (x4 * (gpw x2 (gmS I pp) nn (L 153) i))) < (L 137 ((I 141 ((4 * pp) + i)).toNatClampNeg)) := (not_congr (lg_cmp_lt _ _)).mp c93
              refine lv_iconst (v := 1) hx hb dX4_run_96 (by decide) ?_
              refine lv_goto (tgt := 101) hx hb dX4_run_97 (by decide) ?_
              refine lv_istore (lv' := [(7, .int 1), (9, .long ((L 137 ((I 141 ((4 * pp) + i)).toNatClampNeg)) + (x4 * (gpw x2 (gmS I pp) nn (L 153) i)))), (8, .int (I 141 ((4 * pp) + i))), (0, .ref (ad 136)), (1, .int x1), (2, .long x2), (4, .long x4), (6, .int (nI i))]) hx hb dX4_run_101 hl (by decide) rfl (fun ls hl => ?_)
              refine lv_iload hx hb dX4_run_103 (lv_at hl 0 rfl) ?_
              refine lv_if_eq (tgt := 120) hx hb dX4_run_105 (by decide) (fun c => absurd c (by decide)) (fun _ => ?_)
              refine lv_aload_n hx hb dX4_run_108 rfl (lv_at hl 3 rfl) ?_
              refine g_get (v := .ref (ad 137)) (T := TX4) C hP 136 1 (by decide) rfl rfl inwX4 (by decide) kf_X4_7 rfl dX4_run_109 ?_
              refine lv_iload hx hb dX4_run_112 (lv_at hl 2 rfl) ?_
              refine lv_lload hx hb dX4_run_114 (lv_at hl 1 rfl) ?_
              refine g_last C hP hS 137 8 (by decide) (fun _ _ => rfl) ((I 141 ((4 * pp) + i)).toNatClampNeg) e39 (by omega) (by decide) dX4_run_116 (fun H locs hP hS => ?_)
              refine lv_iinc (v := nI (i + 1)) (lv' := [(6, .int (nI (i + 1))), (7, .int 1), (9, .long ((L 137 ((I 141 ((4 * pp) + i)).toNatClampNeg)) + (x4 * (gpw x2 (gmS I pp) nn (L 153) i)))), (8, .int (I 141 ((4 * pp) + i))), (0, .ref (ad 136)), (1, .int x1), (2, .long x2), (4, .long x4)]) hx hb dX4_run_117 hl (k := 7) rfl (nI_1 _) (by decide) rfl (fun ls hl => ?_)
              refine lv_goto (tgt := 12) hx hb dX4_run_120 (by decide) ?_
              have e120 : (sL (gRM (va_up L 153 (gpw x2 (gmS I pp) nn (L 153))) (gmA I pp) (fun k => x4 * gpw x2 (gmS I pp) nn (L 153) k) i) 137 ((I 141 ((4 * pp) + i)).toNatClampNeg) ((L 137 ((I 141 ((4 * pp) + i)).toNatClampNeg)) + (x4 * (gpw x2 (gmS I pp) nn (L 153) i)))) = (gRM (va_up L 153 (gpw x2 (gmS I pp) nn (L 153))) (gmA I pp) (fun k => x4 * gpw x2 (gmS I pp) nn (L 153) k) (i + 1)) := gRM_s (L := (va_up L 153 (gpw x2 (gmS I pp) nn (L 153)))) (po := (fun k => x4 * gpw x2 (gmS I pp) nn (L 153) k)) hd (by omega)
              rw [e120] at hP
              exact ih12 (i + 1) (by omega) (lt_s hno (fun z => z.elim (fun z => n67 z) (fun z => Int64.not_lt.mpr (Int64.not_lt.mp n93) z.2))) (by omega) _ _ _ hP hS (lv_sub hl [4, 5, 6, 7, 0, 1] rfl)
  exact loop12 (nn + 1) 0 (Nat.zero_le _) (fun _ h => absurd h (Nat.not_lt_zero _)) (by omega) _ _ _ (by rw [gRM_0]; exact hP) hS (lv_sub hl [2, 3, 4, 5, 1, 0] rfl)
def pq_X4_logged (lc : Nat → Nat) (aa : Nat) (nn : Nat) (x1 : Int32) (x2 : Int32) (I : MI) (L : ML) : Int64 → MI → ML → Prop := fun r I' L' => glg I lc (L 145) aa nn = r ∧ I = I' ∧ gsc I lc L nn = L'
set_option maxRecDepth 100000 in
set_option maxHeartbeats 4000000 in
theorem ct_X4_logged (l : Launch) (D : va_G) (cy : Nat → ClassId) (ad : Nat → Nat) (hJ : gJ ad) (lc : Nat → Nat) (aa : Nat) (nn : Nat) (x1 : Int32) (x2 : Int32) (I : MI) (L : ML) (hx1 : x1 = nI aa) (ha8 : aa < 8) (hx2 : x2 = nI nn) (hn40 : nn ≤ 40) (hml : ∀ p, p < 10 → I 139 p = nI (lc p)) (hml4 : ∀ p, p < 10 → lc p ≤ 4) (hma : ∀ p, p < 10 → ∀ k, k < lc p → vp_in (I 141 (4 * p + k)) 8) (hmr : ∀ e, e < nn → vp_in (I 144 e) 10) : gMl l D cy ad yX4_logged cX4_logged 9 .long (gR 4 0 0) [.ref (ad 136), .int x1, .int x2] I L (pq_X4_logged lc aa nn x1 x2 I L) := by
  refine gMl_of hJ (by decide +kernel) kc_X4_logged (Nat.le_of_ble_eq_true rfl) (fun p e s m below meth c A ls C hr hP hS hl => ?_)
  have hx := C.hx
  have hb := C.hb
  have hl : lv_has ls 9 [(0, .ref (ad 136)), (1, .int x1), (2, .int x2)] := hl
  refine lv_lconst (v := 0) hx hb dX4_logged_0 (by decide) ?_
  refine lv_lstore_n (lv' := [(3, .long 0), (0, .ref (ad 136)), (1, .int x1), (2, .int x2)]) hx hb dX4_logged_1 rfl hl (by decide) rfl (fun ls hl => ?_)
  refine lv_iconst (v := 0) hx hb dX4_logged_2 (by decide) ?_
  refine lv_istore (lv' := [(5, .int 0), (3, .long 0), (0, .ref (ad 136)), (1, .int x1), (2, .int x2)]) hx hb dX4_logged_3 hl (by decide) rfl (fun ls hl => ?_)
  have loop5 : ∀ (N : Nat) (i : Nat) (hi : i ≤ nn) (hfu : nn < i + N) (H : Heap) (locs : List Loc) (ls : Array Slot), gP D cy ad I (gsc I lc L i) H → va_S A s.heap H locs → lv_has ls 9 [(0, .ref (ad 136)), (1, .int x1), (2, .int x2), (3, .long (glg I lc (L 145) aa i)), (5, .int (nI i))] → W p l e (gR 4 0 0) s m ([.ref (ad 136), .int x1, .int x2] : List Value).toArray below meth c H locs 0 0 (MQ below (gQl D cy ad A (pq_X4_logged lc aa nn x1 x2 I L)) ([.ref (ad 136), .int x1, .int x2] : List Value).toArray s 0 0 A) (F0 m 5 ls []) := by
    intro N
    induction N with
    | zero =>
      intro i hi hfu
      exact absurd hfu (by omega)
    | succ N ih5 =>
      intro i hi hfu H locs ls hP hS hl
      refine lv_iload hx hb dX4_logged_5 (lv_at hl 4 rfl) ?_
      refine lv_iload_n hx hb dX4_logged_7 rfl (lv_at hl 2 rfl) ?_
      refine lv_icmp_ge (tgt := 117) hx hb dX4_logged_8 (by decide) (fun c8 => ?_) (fun c8 => ?_)
      · have n8 : nn ≤ i := (nI_leeE hx2 rfl (by omega) (by omega)).mp c8
        refine lv_lload_n hx hb dX4_logged_117 rfl (lv_at hl 3 rfl) ?_
        exact gM_lret C hr hP hS (by decide) (by decide) dX4_logged_118 (⟨by rw [show nn = i by omega], rfl, by rw [show nn = i by omega]⟩)  -- end 0: n8 : nn ≤ i
      · have n8 : ¬ nn ≤ i := (not_congr (nI_leeE hx2 rfl (by omega) (by omega))).mp c8
        refine lv_aload_n hx hb dX4_logged_11 rfl (lv_at hl 0 rfl) ?_
        refine lv_aload_n hx hb dX4_logged_12 rfl (lv_at hl 0 rfl) ?_
        refine g_get (v := .ref (ad 144)) (T := TX4) C hP 136 10 (by decide) rfl rfl inwX4 (by decide) kf_X4_33 rfl dX4_logged_13 ?_
        refine lv_iload hx hb dX4_logged_16 (lv_at hl 4 rfl) ?_
        refine g_iald (v := I 144 i) C hP 144 40 (by decide) (fun _ _ => rfl) i rfl rfl (by omega) (by decide) dX4_logged_18 ?_
        obtain ⟨e19, l19⟩ := vp_ix (hmr i (by omega))
        have q19 := hml4 (I 144 i).toNatClampNeg (by omega)
        refine lv_aload_n hx hb dX4_logged_19 rfl (lv_at hl 0 rfl) ?_
        refine g_get (v := .ref (ad 145)) (T := TX4) C hP 136 11 (by decide) rfl rfl inwX4 (by decide) kf_X4_36 rfl dX4_logged_20 ?_
        refine lv_iload hx hb dX4_logged_23 (lv_at hl 4 rfl) ?_
        refine g_lald (v := L 145 i) C hP 145 40 (by decide) (fun _ _ => rfl) i rfl (congrFun (gsc_o I lc L (by decide) i) _) (by omega) (by decide) dX4_logged_25 ?_
        refine gM_callVv (As := [.int (I 144 i), .long (L 145 i)]) (rest := []) C hP hS hl.1 (ct_X4_findPosts l D cy ad hJ ((I 144 i).toNatClampNeg) (lc ((I 144 i).toNatClampNeg)) (I 144 i) (L 145 i) I (gsc I lc L i) e19 (by omega) (hml ((I 144 i).toNatClampNeg) (by omega)) (hml4 ((I 144 i).toNatClampNeg) (by omega))) fa_X4_findPosts kl_X4_100 ki_X4_findPosts kse_X4_findPosts (by decide) (T := TX4) rfl rfl rfl (by decide) (Nat.le_of_ble_eq_true rfl) (by decide) dX4_logged_26 rfl (fun I26 L26 H locs hq hP hS => ?_)
        obtain ⟨rfl, rfl⟩ := hq
        have hP : gP D cy ad I (gsc I lc L (i + 1)) H := hP
        refine lv_iconst (v := 0) hx hb dX4_logged_29 (by decide) ?_
        refine lv_istore (lv' := [(6, .int 0), (0, .ref (ad 136)), (1, .int x1), (2, .int x2), (3, .long (glg I lc (L 145) aa i)), (5, .int (nI i))]) hx hb dX4_logged_30 hl (by decide) rfl (fun ls hl => ?_)
        have loop32 : ∀ (N : Nat) (k : Nat) (hk : k ≤ lc (I 144 i).toNatClampNeg) (hfu : lc (I 144 i).toNatClampNeg < k + N) (H : Heap) (locs : List Loc) (ls : Array Slot), gP D cy ad I (gsc I lc L (i + 1)) H → va_S A s.heap H locs → lv_has ls 9 [(0, .ref (ad 136)), (1, .int x1), (2, .int x2), (3, .long (glg I lc (L 145) aa i + gdl (gmA I (I 144 i).toNatClampNeg) (gep I lc (L 145) i) aa k)), (5, .int (nI i)), (6, .int (nI k))] → W p l e (gR 4 0 0) s m ([.ref (ad 136), .int x1, .int x2] : List Value).toArray below meth c H locs 0 0 (MQ below (gQl D cy ad A (pq_X4_logged lc aa nn x1 x2 I L)) ([.ref (ad 136), .int x1, .int x2] : List Value).toArray s 0 0 A) (F0 m 32 ls []) := by
          intro N
          induction N with
          | zero =>
            intro k hk hfu
            exact absurd hfu (by omega)
          | succ N ih32 =>
            intro k hk hfu H locs ls hP hS hl
            refine lv_iload hx hb dX4_logged_32 (lv_at hl 5 rfl) ?_
            refine lv_aload_n hx hb dX4_logged_34 rfl (lv_at hl 0 rfl) ?_
            refine g_get (v := .ref (ad 139)) (T := TX4) C hP 136 4 (by decide) rfl rfl inwX4 (by decide) kf_X4_16 rfl dX4_logged_35 ?_
            refine lv_aload_n hx hb dX4_logged_38 rfl (lv_at hl 0 rfl) ?_
            refine g_get (v := .ref (ad 144)) (T := TX4) C hP 136 10 (by decide) rfl rfl inwX4 (by decide) kf_X4_33 rfl dX4_logged_39 ?_
            refine lv_iload hx hb dX4_logged_42 (lv_at hl 4 rfl) ?_
            refine g_iald (v := I 144 i) C hP 144 40 (by decide) (fun _ _ => rfl) i rfl rfl (by omega) (by decide) dX4_logged_44 ?_
            refine g_iald (v := nI (lc ((I 144 i).toNatClampNeg))) C hP 139 10 (by decide) (fun _ _ => rfl) ((I 144 i).toNatClampNeg) e19 (hml ((I 144 i).toNatClampNeg) (by omega)) (by omega) (by decide) dX4_logged_45 ?_
            refine lv_icmp_ge (tgt := 111) hx hb dX4_logged_46 (by decide) (fun c46 => ?_) (fun c46 => ?_)
            · have n46 : (lc ((I 144 i).toNatClampNeg)) ≤ k := (nI_leeE rfl rfl (by omega) (by omega)).mp c46
              refine lv_iinc (v := nI (i + 1)) (lv' := [(5, .int (nI (i + 1))), (0, .ref (ad 136)), (1, .int x1), (2, .int x2), (3, .long (glg I lc (L 145) aa i + gdl (gmA I (I 144 i).toNatClampNeg) (gep I lc (L 145) i) aa k)), (6, .int (nI k))]) hx hb dX4_logged_111 hl (k := 4) rfl (nI_1 _) (by decide) rfl (fun ls hl => ?_)
              refine lv_goto (tgt := 5) hx hb dX4_logged_114 (by decide) ?_
              have e114 : glg I lc (L 145) aa i + gdl (gmA I (I 144 i).toNatClampNeg) (gep I lc (L 145) i) aa k = glg I lc (L 145) aa (i + 1) := by rw [show k = lc (I 144 i).toNatClampNeg by omega]; rfl
              rw [e114] at hl
              exact ih5 (i + 1) (by omega) (by omega) _ _ _ hP hS (lv_sub hl [1, 2, 3, 4, 0] rfl)
            · have n46 : ¬ (lc ((I 144 i).toNatClampNeg)) ≤ k := (not_congr (nI_leeE rfl rfl (by omega) (by omega))).mp c46
              refine lv_aload_n hx hb dX4_logged_49 rfl (lv_at hl 0 rfl) ?_
              refine g_get (v := .ref (ad 141)) (T := TX4) C hP 136 6 (by decide) rfl rfl inwX4 (by decide) kf_X4_23 rfl dX4_logged_50 ?_
              refine lv_iconst (v := 4) hx hb dX4_logged_53 (by decide) ?_
              refine lv_aload_n hx hb dX4_logged_54 rfl (lv_at hl 0 rfl) ?_
              refine g_get (v := .ref (ad 144)) (T := TX4) C hP 136 10 (by decide) rfl rfl inwX4 (by decide) kf_X4_33 rfl dX4_logged_55 ?_
              refine lv_iload hx hb dX4_logged_58 (lv_at hl 4 rfl) ?_
              refine g_iald (v := I 144 i) C hP 144 40 (by decide) (fun _ _ => rfl) i rfl rfl (by omega) (by decide) dX4_logged_60 ?_
              refine lv_imul hx hb dX4_logged_61 ?_
              refine lv_iload hx hb dX4_logged_62 (lv_at hl 5 rfl) ?_
              refine lv_iadd hx hb dX4_logged_64 ?_
              refine g_iald (v := I 141 ((4 * ((I 144 i).toNatClampNeg)) + k)) C hP 141 40 (by decide) (fun _ _ => rfl) ((4 * ((I 144 i).toNatClampNeg)) + k) (nI_addE (nI_mulE (show (4 : Int32) = nI 4 from rfl) e19) rfl) rfl (by omega) (by decide) dX4_logged_65 ?_
              obtain ⟨e66, l66⟩ := vp_ix (hma _ (by omega) k (by omega))
              refine lv_iload_n hx hb dX4_logged_66 rfl (lv_at hl 1 rfl) ?_
              refine lv_icmp_ne (tgt := 80) hx hb dX4_logged_67 (by decide) (fun c67 => ?_) (fun c67 => ?_)
              · have n67 : ¬ ((I 141 ((4 * ((I 144 i).toNatClampNeg)) + k)).toNatClampNeg) = aa := (not_congr (nI_eqqE e66 hx1 (by omega) (by omega))).mp c67
                refine lv_lconst (v := 0) hx hb dX4_logged_80 (by decide) ?_
                refine lv_lstore (lv' := [(7, .long 0), (0, .ref (ad 136)), (1, .int x1), (2, .int x2), (3, .long (glg I lc (L 145) aa i + gdl (gmA I (I 144 i).toNatClampNeg) (gep I lc (L 145) i) aa k)), (5, .int (nI i)), (6, .int (nI k))]) hx hb dX4_logged_81 hl (by decide) rfl (fun ls hl => ?_)
                refine lv_aload_n hx hb dX4_logged_83 rfl (lv_at hl 1 rfl) ?_
                refine g_get (v := .ref (ad 148)) (T := TX4) C hP 136 14 (by decide) rfl rfl inwX4 (by decide) kf_X4_45 rfl dX4_logged_84 ?_
                refine lv_iload hx hb dX4_logged_87 (lv_at hl 5 rfl) ?_
                refine g_iald (v := I 148 i) C hP 148 40 (by decide) (fun _ _ => rfl) i rfl rfl (by omega) (by decide) dX4_logged_89 ?_
                refine lv_if_lt (tgt := 100) hx hb dX4_logged_90 (by decide) (fun c90 => ?_) (fun c90 => ?_)
                · refine lv_lload_n hx hb dX4_logged_100 rfl (lv_at hl 4 rfl) ?_
                  refine lv_lload hx hb dX4_logged_101 (lv_at hl 0 rfl) ?_
                  refine lv_ladd hx hb dX4_logged_103 ?_
                  refine lv_lstore_n (lv' := [(3, .long ((glg I lc (L 145) aa i + gdl (gmA I (I 144 i).toNatClampNeg) (gep I lc (L 145) i) aa k) + 0)), (7, .long 0), (0, .ref (ad 136)), (1, .int x1), (2, .int x2), (5, .int (nI i)), (6, .int (nI k))]) hx hb dX4_logged_104 rfl hl (by decide) rfl (fun ls hl => ?_)
                  refine lv_iinc (v := nI (k + 1)) (lv' := [(6, .int (nI (k + 1))), (3, .long ((glg I lc (L 145) aa i + gdl (gmA I (I 144 i).toNatClampNeg) (gep I lc (L 145) i) aa k) + 0)), (7, .long 0), (0, .ref (ad 136)), (1, .int x1), (2, .int x2), (5, .int (nI i))]) hx hb dX4_logged_105 hl (k := 6) rfl (nI_1 _) (by decide) rfl (fun ls hl => ?_)
                  refine lv_goto (tgt := 32) hx hb dX4_logged_108 (by decide) ?_
                  have e108 : (glg I lc (L 145) aa i + gdl (gmA I (I 144 i).toNatClampNeg) (gep I lc (L 145) i) aa k) + 0 = glg I lc (L 145) aa i + gdl (gmA I (I 144 i).toNatClampNeg) (gep I lc (L 145) i) aa (k + 1) := gd_np n67
                  rw [e108] at hl
                  exact ih32 (k + 1) (by omega) (by omega) _ _ _ hP hS (lv_sub hl [3, 4, 5, 1, 6, 0] rfl)
                · refine lv_lload_n hx hb dX4_logged_93 rfl (lv_at hl 4 rfl) ?_
                  refine lv_lload hx hb dX4_logged_94 (lv_at hl 0 rfl) ?_
                  refine lv_lsub hx hb dX4_logged_96 ?_
                  refine lv_goto (tgt := 104) hx hb dX4_logged_97 (by decide) ?_
                  refine lv_lstore_n (lv' := [(3, .long ((glg I lc (L 145) aa i + gdl (gmA I (I 144 i).toNatClampNeg) (gep I lc (L 145) i) aa k) - 0)), (7, .long 0), (0, .ref (ad 136)), (1, .int x1), (2, .int x2), (5, .int (nI i)), (6, .int (nI k))]) hx hb dX4_logged_104 rfl hl (by decide) rfl (fun ls hl => ?_)
                  refine lv_iinc (v := nI (k + 1)) (lv' := [(6, .int (nI (k + 1))), (3, .long ((glg I lc (L 145) aa i + gdl (gmA I (I 144 i).toNatClampNeg) (gep I lc (L 145) i) aa k) - 0)), (7, .long 0), (0, .ref (ad 136)), (1, .int x1), (2, .int x2), (5, .int (nI i))]) hx hb dX4_logged_105 hl (k := 6) rfl (nI_1 _) (by decide) rfl (fun ls hl => ?_)
                  refine lv_goto (tgt := 32) hx hb dX4_logged_108 (by decide) ?_
                  have e108 : (glg I lc (L 145) aa i + gdl (gmA I (I 144 i).toNatClampNeg) (gep I lc (L 145) i) aa k) - 0 = glg I lc (L 145) aa i + gdl (gmA I (I 144 i).toNatClampNeg) (gep I lc (L 145) i) aa (k + 1) := gd_nm n67
                  rw [e108] at hl
                  exact ih32 (k + 1) (by omega) (by omega) _ _ _ hP hS (lv_sub hl [3, 4, 5, 1, 6, 0] rfl)
              · have n67 : ((I 141 ((4 * ((I 144 i).toNatClampNeg)) + k)).toNatClampNeg) = aa := (nI_eqqE e66 hx1 (by omega) (by omega)).mp c67
                refine lv_aload_n hx hb dX4_logged_70 rfl (lv_at hl 0 rfl) ?_
                refine g_get (v := .ref (ad 153)) (T := TX4) C hP 136 19 (by decide) rfl rfl inwX4 (by decide) kf_X4_60 rfl dX4_logged_71 ?_
                refine lv_iload hx hb dX4_logged_74 (lv_at hl 5 rfl) ?_
                refine g_lald (v := gpo (L 145 i) (gmS I (I 144 i).toNatClampNeg) (lc (I 144 i).toNatClampNeg) k) C hP 153 4 (by decide) (fun _ _ => rfl) k rfl (gsc_153 (by omega)) (by omega) (by decide) dX4_logged_76 ?_
                refine lv_goto (tgt := 81) hx hb dX4_logged_77 (by decide) ?_
                refine lv_lstore (lv' := [(7, .long (gpo (L 145 i) (gmS I (I 144 i).toNatClampNeg) (lc (I 144 i).toNatClampNeg) k)), (0, .ref (ad 136)), (1, .int x1), (2, .int x2), (3, .long (glg I lc (L 145) aa i + gdl (gmA I (I 144 i).toNatClampNeg) (gep I lc (L 145) i) aa k)), (5, .int (nI i)), (6, .int (nI k))]) hx hb dX4_logged_81 hl (by decide) rfl (fun ls hl => ?_)
                refine lv_aload_n hx hb dX4_logged_83 rfl (lv_at hl 1 rfl) ?_
                refine g_get (v := .ref (ad 148)) (T := TX4) C hP 136 14 (by decide) rfl rfl inwX4 (by decide) kf_X4_45 rfl dX4_logged_84 ?_
                refine lv_iload hx hb dX4_logged_87 (lv_at hl 5 rfl) ?_
                refine g_iald (v := I 148 i) C hP 148 40 (by decide) (fun _ _ => rfl) i rfl rfl (by omega) (by decide) dX4_logged_89 ?_
                refine lv_if_lt (tgt := 100) hx hb dX4_logged_90 (by decide) (fun c90 => ?_) (fun c90 => ?_)
                · refine lv_lload_n hx hb dX4_logged_100 rfl (lv_at hl 4 rfl) ?_
                  refine lv_lload hx hb dX4_logged_101 (lv_at hl 0 rfl) ?_
                  refine lv_ladd hx hb dX4_logged_103 ?_
                  refine lv_lstore_n (lv' := [(3, .long ((glg I lc (L 145) aa i + gdl (gmA I (I 144 i).toNatClampNeg) (gep I lc (L 145) i) aa k) + (gpo (L 145 i) (gmS I (I 144 i).toNatClampNeg) (lc (I 144 i).toNatClampNeg) k))), (7, .long (gpo (L 145 i) (gmS I (I 144 i).toNatClampNeg) (lc (I 144 i).toNatClampNeg) k)), (0, .ref (ad 136)), (1, .int x1), (2, .int x2), (5, .int (nI i)), (6, .int (nI k))]) hx hb dX4_logged_104 rfl hl (by decide) rfl (fun ls hl => ?_)
                  refine lv_iinc (v := nI (k + 1)) (lv' := [(6, .int (nI (k + 1))), (3, .long ((glg I lc (L 145) aa i + gdl (gmA I (I 144 i).toNatClampNeg) (gep I lc (L 145) i) aa k) + (gpo (L 145 i) (gmS I (I 144 i).toNatClampNeg) (lc (I 144 i).toNatClampNeg) k))), (7, .long (gpo (L 145 i) (gmS I (I 144 i).toNatClampNeg) (lc (I 144 i).toNatClampNeg) k)), (0, .ref (ad 136)), (1, .int x1), (2, .int x2), (5, .int (nI i))]) hx hb dX4_logged_105 hl (k := 6) rfl (nI_1 _) (by decide) rfl (fun ls hl => ?_)
                  refine lv_goto (tgt := 32) hx hb dX4_logged_108 (by decide) ?_
                  have e108 : (glg I lc (L 145) aa i + gdl (gmA I (I 144 i).toNatClampNeg) (gep I lc (L 145) i) aa k) + (gpo (L 145 i) (gmS I (I 144 i).toNatClampNeg) (lc (I 144 i).toNatClampNeg) k) = glg I lc (L 145) aa i + gdl (gmA I (I 144 i).toNatClampNeg) (gep I lc (L 145) i) aa (k + 1) := gd_yp n67 (if_pos c90).symm
                  rw [e108] at hl
                  exact ih32 (k + 1) (by omega) (by omega) _ _ _ hP hS (lv_sub hl [3, 4, 5, 1, 6, 0] rfl)
                · refine lv_lload_n hx hb dX4_logged_93 rfl (lv_at hl 4 rfl) ?_
                  refine lv_lload hx hb dX4_logged_94 (lv_at hl 0 rfl) ?_
                  refine lv_lsub hx hb dX4_logged_96 ?_
                  refine lv_goto (tgt := 104) hx hb dX4_logged_97 (by decide) ?_
                  refine lv_lstore_n (lv' := [(3, .long ((glg I lc (L 145) aa i + gdl (gmA I (I 144 i).toNatClampNeg) (gep I lc (L 145) i) aa k) - (gpo (L 145 i) (gmS I (I 144 i).toNatClampNeg) (lc (I 144 i).toNatClampNeg) k))), (7, .long (gpo (L 145 i) (gmS I (I 144 i).toNatClampNeg) (lc (I 144 i).toNatClampNeg) k)), (0, .ref (ad 136)), (1, .int x1), (2, .int x2), (5, .int (nI i)), (6, .int (nI k))]) hx hb dX4_logged_104 rfl hl (by decide) rfl (fun ls hl => ?_)
                  refine lv_iinc (v := nI (k + 1)) (lv' := [(6, .int (nI (k + 1))), (3, .long ((glg I lc (L 145) aa i + gdl (gmA I (I 144 i).toNatClampNeg) (gep I lc (L 145) i) aa k) - (gpo (L 145 i) (gmS I (I 144 i).toNatClampNeg) (lc (I 144 i).toNatClampNeg) k))), (7, .long (gpo (L 145 i) (gmS I (I 144 i).toNatClampNeg) (lc (I 144 i).toNatClampNeg) k)), (0, .ref (ad 136)), (1, .int x1), (2, .int x2), (5, .int (nI i))]) hx hb dX4_logged_105 hl (k := 6) rfl (nI_1 _) (by decide) rfl (fun ls hl => ?_)
                  refine lv_goto (tgt := 32) hx hb dX4_logged_108 (by decide) ?_
                  have e108 : (glg I lc (L 145) aa i + gdl (gmA I (I 144 i).toNatClampNeg) (gep I lc (L 145) i) aa k) - (gpo (L 145 i) (gmS I (I 144 i).toNatClampNeg) (lc (I 144 i).toNatClampNeg) k) = glg I lc (L 145) aa i + gdl (gmA I (I 144 i).toNatClampNeg) (gep I lc (L 145) i) aa (k + 1) := gd_ym n67 (if_neg c90).symm
                  rw [e108] at hl
                  exact ih32 (k + 1) (by omega) (by omega) _ _ _ hP hS (lv_sub hl [3, 4, 5, 1, 6, 0] rfl)
        rw [show glg I lc (L 145) aa i = glg I lc (L 145) aa i + gdl (gmA I (I 144 i).toNatClampNeg) (gep I lc (L 145) i) aa 0 from gd_0] at hl
        exact loop32 (lc (I 144 i).toNatClampNeg + 1) 0 (Nat.zero_le _) (by omega) _ _ _ hP hS (lv_sub hl [1, 2, 3, 4, 5, 0] rfl)
  exact loop5 (nn + 1) 0 (Nat.zero_le _) (by omega) _ _ _ hP hS (lv_sub hl [2, 3, 4, 1, 0] rfl)
def pq_X4_isSound (lc : Nat → Nat) (ne : Nat) (I : MI) (L : ML) : Int32 → MI → ML → Prop := fun r I' L' => gz (L 137) (glf I lc (L 145) ne) 8 = r ∧ I = I' ∧ (gSS I lc L ne 8) = L'
set_option maxRecDepth 100000 in
set_option maxHeartbeats 4000000 in
theorem ct_X4_isSound (l : Launch) (D : va_G) (cy : Nat → ClassId) (ad : Nat → Nat) (hJ : gJ ad) (lc : Nat → Nat) (ne : Nat) (I : MI) (L : ML) (hme : I 136 9 = nI ne) (hme40 : ne ≤ 40) (hml : ∀ p, p < 10 → I 139 p = nI (lc p)) (hml4 : ∀ p, p < 10 → lc p ≤ 4) (hma : ∀ p, p < 10 → ∀ k, k < lc p → vp_in (I 141 (4 * p + k)) 8) (hmr : ∀ e, e < ne → vp_in (I 144 e) 10) : gMi l D cy ad yX4_isSound cX4_isSound 3 .boolean (gR 3 0 0) [.ref (ad 136)] I L (pq_X4_isSound lc ne I L) := by
  refine gMi_of hJ (by decide +kernel) kc_X4_isSound (Nat.le_of_ble_eq_true rfl) (fun p e s m below meth c A ls C hr hP hS hl => ?_)
  have hx := C.hx
  have hb := C.hb
  have hl : lv_has ls 3 [(0, .ref (ad 136))] := hl
  refine lv_iconst (v := 1) hx hb dX4_isSound_0 (by decide) ?_
  refine lv_istore_n (lv' := [(1, .int 1), (0, .ref (ad 136))]) hx hb dX4_isSound_1 rfl hl (by decide) rfl (fun ls hl => ?_)
  refine lv_iconst (v := 0) hx hb dX4_isSound_2 (by decide) ?_
  refine lv_istore_n (lv' := [(2, .int 0), (1, .int 1), (0, .ref (ad 136))]) hx hb dX4_isSound_3 rfl hl (by decide) rfl (fun ls hl => ?_)
  have loop4 : ∀ (N : Nat) (i : Nat) (hi : i ≤ 8) (hfu : 8 < i + N) (H : Heap) (locs : List Loc) (ls : Array Slot), gP D cy ad I (gSS I lc L ne i) H → va_S A s.heap H locs → lv_has ls 3 [(0, .ref (ad 136)), (1, .int (gz (L 137) (glf I lc (L 145) ne) i)), (2, .int (nI i))] → W p l e (gR 3 0 0) s m ([.ref (ad 136)] : List Value).toArray below meth c H locs 0 0 (MQ below (gQi D cy ad A (pq_X4_isSound lc ne I L)) ([.ref (ad 136)] : List Value).toArray s 0 0 A) (F0 m 4 ls []) := by
    intro N
    induction N with
    | zero =>
      intro i hi hfu
      exact absurd hfu (by omega)
    | succ N ih4 =>
      intro i hi hfu H locs ls hP hS hl
      refine lv_iload_n hx hb dX4_isSound_4 rfl (lv_at hl 2 rfl) ?_
      refine lv_bipush (v := 8) hx hb dX4_isSound_5 (by decide) ?_
      refine lv_icmp_ge (tgt := 45) hx hb dX4_isSound_7 (by decide) (fun c7 => ?_) (fun c7 => ?_)
      · have n7 : 8 ≤ i := (nI_leeE (show (8 : Int32) = nI 8 from rfl) rfl (by omega) (by omega)).mp c7
        refine lv_iload_n hx hb dX4_isSound_45 rfl (lv_at hl 1 rfl) ?_
        exact gM_zret C hr gz_b hP hS (by decide) (by decide) dX4_isSound_46 (⟨by rw [show i = 8 by omega], rfl, by rw [show i = 8 by omega]⟩)  -- end 0: n7 : 8 ≤ i
      · have n7 : ¬ 8 ≤ i := (not_congr (nI_leeE (show (8 : Int32) = nI 8 from rfl) rfl (by omega) (by omega))).mp c7
        refine lv_iload_n hx hb dX4_isSound_10 rfl (lv_at hl 1 rfl) ?_
        refine lv_if_eq (tgt := 37) hx hb dX4_isSound_11 (by decide) (fun c11 => ?_) (fun c11 => ?_)
        · refine lv_iconst (v := 0) hx hb dX4_isSound_37 (by decide) ?_
          refine lv_istore_n (lv' := [(1, .int 0), (0, .ref (ad 136)), (2, .int (nI i))]) hx hb dX4_isSound_38 rfl hl (by decide) rfl (fun ls hl => ?_)
          refine lv_iinc (v := nI (i + 1)) (lv' := [(2, .int (nI (i + 1))), (1, .int 0), (0, .ref (ad 136))]) hx hb dX4_isSound_39 hl (k := 2) rfl (nI_1 _) (by decide) rfl (fun ls hl => ?_)
          refine lv_goto (tgt := 4) hx hb dX4_isSound_42 (by decide) ?_
          have e42 : (0 : Int32) = gz (L 137) (glf I lc (L 145) ne) (i + 1) := gz_nn c11
          have e43 : (gSS I lc L ne i) = (gSS I lc L ne (i + 1)) := gSS_n c11
          rw [e42] at hl
          rw [e43] at hP
          exact ih4 (i + 1) (by omega) (by omega) _ _ _ hP hS (lv_sub hl [2, 1, 0] rfl)
        · refine lv_aload_n hx hb dX4_isSound_14 rfl (lv_at hl 0 rfl) ?_
          refine g_get (v := .ref (ad 137)) (T := TX4) C hP 136 1 (by decide) rfl rfl inwX4 (by decide) kf_X4_7 rfl dX4_isSound_15 ?_
          refine lv_iload_n hx hb dX4_isSound_18 rfl (lv_at hl 2 rfl) ?_
          refine g_lald (v := L 137 i) C hP 137 8 (by decide) (fun _ _ => rfl) i rfl (congrFun (gSS_o I lc L ne (by decide) i) _) (by omega) (by decide) dX4_isSound_19 ?_
          refine lv_aload_n hx hb dX4_isSound_20 rfl (lv_at hl 0 rfl) ?_
          refine lv_iload_n hx hb dX4_isSound_21 rfl (lv_at hl 2 rfl) ?_
          refine lv_aload_n hx hb dX4_isSound_22 rfl (lv_at hl 0 rfl) ?_
          refine g_get (v := .int (nI ne)) (T := TX4) C hP 136 9 (by decide) rfl rfl inwX4 (by decide) kf_X4_104 (congrArg (fun z => some (Value.int z)) hme) dX4_isSound_23 ?_
          refine gM_callVl (As := [.int (nI i), .int (nI ne)]) (rest := [.long (L 137 i)]) C hP hS hl.1 (ct_X4_logged l D cy ad hJ lc i ne (nI i) (nI ne) I (gSS I lc L ne i) rfl (by omega) rfl (by omega) hml hml4 hma hmr) fa_X4_logged kl_X4_107 ki_X4_logged kse_X4_logged (by decide) (T := TX4) rfl rfl rfl (by decide) (Nat.le_of_ble_eq_true rfl) (by decide) dX4_isSound_26 rfl (fun r26 I26 L26 H locs hq hP hS => ?_)
          obtain ⟨hr26, rfl, rfl⟩ := hq
          rw [gSS_o I lc L ne (by decide) i] at hr26
          subst hr26
          refine W.lcmp hx hb dX4_isSound_29 ?_
          refine lv_if_ne (tgt := 37) hx hb dX4_isSound_30 (by decide) (fun c30 => ?_) (fun c30 => ?_)
          · have n30 : ¬ (L 137 i) = (glg I lc (L 145) i ne) := (not_congr (lg_cmp_eq _ _)).mp c30
            refine lv_iconst (v := 0) hx hb dX4_isSound_37 (by decide) ?_
            refine lv_istore_n (lv' := [(1, .int 0), (0, .ref (ad 136)), (2, .int (nI i))]) hx hb dX4_isSound_38 rfl hl (by decide) rfl (fun ls hl => ?_)
            refine lv_iinc (v := nI (i + 1)) (lv' := [(2, .int (nI (i + 1))), (1, .int 0), (0, .ref (ad 136))]) hx hb dX4_isSound_39 hl (k := 2) rfl (nI_1 _) (by decide) rfl (fun ls hl => ?_)
            refine lv_goto (tgt := 4) hx hb dX4_isSound_42 (by decide) ?_
            have e42 : (0 : Int32) = gz (L 137) (glf I lc (L 145) ne) (i + 1) := gz_ny c11 n30
            have e43 : (gsc I lc (gSS I lc L ne i) ne) = (gSS I lc L ne (i + 1)) := gSS_y c11
            rw [e42] at hl
            rw [e43] at hP
            exact ih4 (i + 1) (by omega) (by omega) _ _ _ hP hS (lv_sub hl [2, 1, 0] rfl)
          · have n30 : (L 137 i) = (glg I lc (L 145) i ne) := (lg_cmp_eq _ _).mp c30
            refine lv_iconst (v := 1) hx hb dX4_isSound_33 (by decide) ?_
            refine lv_goto (tgt := 38) hx hb dX4_isSound_34 (by decide) ?_
            refine lv_istore_n (lv' := [(1, .int 1), (0, .ref (ad 136)), (2, .int (nI i))]) hx hb dX4_isSound_38 rfl hl (by decide) rfl (fun ls hl => ?_)
            refine lv_iinc (v := nI (i + 1)) (lv' := [(2, .int (nI (i + 1))), (1, .int 1), (0, .ref (ad 136))]) hx hb dX4_isSound_39 hl (k := 2) rfl (nI_1 _) (by decide) rfl (fun ls hl => ?_)
            refine lv_goto (tgt := 4) hx hb dX4_isSound_42 (by decide) ?_
            have e42 : (1 : Int32) = gz (L 137) (glf I lc (L 145) ne) (i + 1) := gz_yy c11 n30
            have e43 : (gsc I lc (gSS I lc L ne i) ne) = (gSS I lc L ne (i + 1)) := gSS_y c11
            rw [e42] at hl
            rw [e43] at hP
            exact ih4 (i + 1) (by omega) (by omega) _ _ _ hP hS (lv_sub hl [2, 1, 0] rfl)
  exact loop4 9 0 (Nat.zero_le _) (by omega) _ _ _ hP hS (lv_sub hl [2, 1, 0] rfl)
end
