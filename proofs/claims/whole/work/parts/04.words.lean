theorem inX0_t : ∀ w ∈ u_ws RX0 TX0 6, w ∈ lw_tbl := by decide +kernel
theorem inX1_t : ∀ w ∈ u_ws RX1 TX1 5, w ∈ lw_tbl := by decide +kernel
theorem inX2_t : ∀ w ∈ u_ws RX2 TX2 3, w ∈ lw_tbl := by decide +kernel
theorem inX3_t : ∀ w ∈ u_ws RX3 TX3 9, w ∈ lw_tbl := by decide +kernel
theorem inX4_t : ∀ w ∈ u_ws RX4 TX4 20, w ∈ lw_tbl := by decide +kernel
/-- the tables' words that stay under warmer tables -/
def WS : List Cond := lw_tbl.filter goodWord
theorem mws {w : Cond} (h : w ∈ lw_tbl) (g : goodWord w = true) : w ∈ WS := List.mem_filter.mpr ⟨h, g⟩
theorem tb1 {w : Cond} (i : Nat) (h : tables_1_1[i]? = some w) : w ∈ lw_tbl := List.mem_append_right _ (List.mem_append_left _ (List.mem_of_getElem? h))
theorem tb2 {w : Cond} (i : Nat) (h : tables_1_2[i]? = some w) : w ∈ lw_tbl := List.mem_append_right _ (List.mem_append_right _ (List.mem_append_left _ (List.mem_of_getElem? h)))
theorem tb3 {w : Cond} (i : Nat) (h : tables_1_3[i]? = some w) : w ∈ lw_tbl := List.mem_append_right _ (List.mem_append_right _ (List.mem_append_right _ (List.mem_append_left _ (List.mem_of_getElem? h))))
theorem tb4 {w : Cond} (i : Nat) (h : tables_1_4[i]? = some w) : w ∈ lw_tbl := List.mem_append_right _ (List.mem_append_right _ (List.mem_append_right _ (List.mem_append_right _ (List.mem_of_getElem? h))))
theorem tp1 {q : MethodName × Nat} (i : Nat) (h : lw_privs_1[i]? = some q) : Cond.selects q.1.cls q.1 q.1 ∈ lw_tbl := List.mem_append_left _ (List.mem_map_of_mem (f := fun q : MethodName × Nat => Cond.selects q.1.cls q.1 q.1) (List.mem_append_left _ (List.mem_of_getElem? h)))
theorem tp2 {q : MethodName × Nat} (i : Nat) (h : lw_privs_2[i]? = some q) : Cond.selects q.1.cls q.1 q.1 ∈ lw_tbl := List.mem_append_left _ (List.mem_map_of_mem (f := fun q : MethodName × Nat => Cond.selects q.1.cls q.1 q.1) (List.mem_append_right _ (List.mem_append_left _ (List.mem_of_getElem? h))))
theorem tp3 {q : MethodName × Nat} (i : Nat) (h : lw_privs_3[i]? = some q) : Cond.selects q.1.cls q.1 q.1 ∈ lw_tbl := List.mem_append_left _ (List.mem_map_of_mem (f := fun q : MethodName × Nat => Cond.selects q.1.cls q.1 q.1) (List.mem_append_right _ (List.mem_append_right _ (List.mem_of_getElem? h))))
theorem kini_L : Cond.initialized RL ∈ WS := mws (tb1 0 rfl) rfl
theorem kini_X3 : Cond.initialized RX3 ∈ WS := mws (tb1 1 rfl) rfl
theorem kini_X1 : Cond.initialized RX1 ∈ WS := mws (tb1 2 rfl) rfl
theorem kini_X2 : Cond.initialized RX2 ∈ WS := mws (tb1 3 rfl) rfl
theorem kini_X0 : Cond.initialized RX0 ∈ WS := mws (tb1 4 rfl) rfl
theorem kini_X4 : Cond.initialized RX4 ∈ WS := mws (tb1 5 rfl) rfl
theorem kini_Throwable : Cond.initialized "java/lang/Throwable" ∈ WS := mws (tb1 6 rfl) rfl
theorem kini_Exception : Cond.initialized "java/lang/Exception" ∈ WS := mws (tb1 7 rfl) rfl
theorem kini_RuntimeException : Cond.initialized "java/lang/RuntimeException" ∈ WS := mws (tb1 8 rfl) rfl
theorem kini_IndexOutOfBoundsException : Cond.initialized "java/lang/IndexOutOfBoundsException" ∈ WS := mws (tb1 9 rfl) rfl
theorem kini_IllegalArgumentException : Cond.initialized "java/lang/IllegalArgumentException" ∈ WS := mws (tb1 10 rfl) rfl
theorem kini_IllegalStateException : Cond.initialized "java/lang/IllegalStateException" ∈ WS := mws (tb1 11 rfl) rfl
theorem kini_UnsupportedOperationException : Cond.initialized "java/lang/UnsupportedOperationException" ∈ WS := mws (tb1 12 rfl) rfl
theorem kini_System : Cond.initialized "java/lang/System" ∈ WS := mws (tb1 13 rfl) rfl
theorem kcl_L_8 : Cond.classLink RL 8 RX3 ∈ WS := mws (tb1 14 rfl) rfl
theorem kinst_X3 : Cond.instantiable RX3 9 ∈ WS := mws (tb1 15 rfl) rfl
theorem kl_L_75 : Cond.methodLink RL 75 yX3_init ∈ WS := mws (tb1 16 rfl) rfl
theorem ki_X3_init : Cond.instanceMethod yX3_init ∈ WS := mws (tb1 17 rfl) rfl
theorem kc_X3_init : Cond.code yX3_init cX3_init 2 none ∈ WS := mws (tb1 18 rfl) rfl
theorem kl_X3_1 : Cond.methodLink RX3 1 objectInit ∈ WS := mws (tb1 19 rfl) rfl
theorem ki_objInit : Cond.instanceMethod objectInit ∈ WS := mws (tb1 20 rfl) rfl
theorem kc_objInit : Cond.code objectInit ⟨#[0xb1]⟩ 1 none ∈ WS := mws (tb1 21 rfl) rfl
theorem kcl_X3_16 : Cond.classLink RX3 16 RX1 ∈ WS := mws (tb1 22 rfl) rfl
theorem kcl_X3_26 : Cond.classLink RX3 26 RX2 ∈ WS := mws (tb1 24 rfl) rfl
theorem kcl_X3_32 : Cond.classLink RX3 32 RX0 ∈ WS := mws (tb1 26 rfl) rfl
theorem kcl_X3_41 : Cond.classLink RX3 41 "[[J" ∈ WS := mws (tb1 28 rfl) rfl
theorem kcn_X3_49 : Cond.constantLong RX3 49 (-1000000000000) ∈ WS := mws (tb1 30 rfl) rfl
theorem kinst_X1 : Cond.instantiable RX1 5 ∈ WS := mws (tb1 31 rfl) rfl
theorem ki_X1_init : Cond.instanceMethod yX1_init ∈ WS := mws (tb1 33 rfl) rfl
theorem kc_X1_init : Cond.code yX1_init cX1_init 1 none ∈ WS := mws (tb1 34 rfl) rfl
theorem kl_X1_3 : Cond.methodLink RX1 3 objectInit ∈ WS := mws (tb1 35 rfl) rfl
theorem kf_X1_9 : Cond.fieldLink RX1 9 "CertifiedBooks$Procedure" "accounts" "[I" ∈ WS := mws (tb1 36 rfl) rfl
theorem kf_X1_15 : Cond.fieldLink RX1 15 "CertifiedBooks$Procedure" "shares" "[I" ∈ WS := mws (tb1 38 rfl) rfl
theorem kf_X1_18 : Cond.fieldLink RX1 18 "CertifiedBooks$Procedure" "lineCount" "I" ∈ WS := mws (tb1 39 rfl) rfl
theorem kf_X1_22 : Cond.fieldLink RX1 22 "CertifiedBooks$Procedure" "certifier" "I" ∈ WS := mws (tb1 41 rfl) rfl
theorem kf_X1_25 : Cond.fieldLink RX1 25 "CertifiedBooks$Procedure" "grants" "[Z" ∈ WS := mws (tb1 43 rfl) rfl
theorem kac_long : Cond.arrayClass .long ∈ WS := mws (tb1 56 rfl) rfl
theorem kac_int : Cond.arrayClass .int ∈ WS := mws (tb1 57 rfl) rfl
theorem kac_boolean : Cond.arrayClass .boolean ∈ WS := mws (tb1 58 rfl) rfl
theorem kinst_X2 : Cond.instantiable RX2 3 ∈ WS := mws (tb1 59 rfl) rfl
theorem ki_X2_init : Cond.instanceMethod yX2_init ∈ WS := mws (tb1 61 rfl) rfl
theorem kc_X2_init : Cond.code yX2_init cX2_init 1 none ∈ WS := mws (tb1 62 rfl) rfl
theorem kl_X2_3 : Cond.methodLink RX2 3 objectInit ∈ WS := mws (tb1 63 rfl) rfl
theorem kf_X2_9 : Cond.fieldLink RX2 9 "CertifiedBooks$Request" "asker" "I" ∈ WS := mws (tb1 64 rfl) rfl
theorem kf_X2_15 : Cond.fieldLink RX2 15 "CertifiedBooks$Request" "procedure" "I" ∈ WS := mws (tb1 66 rfl) rfl
theorem kf_X2_18 : Cond.fieldLink RX2 18 "CertifiedBooks$Request" "amount" "J" ∈ WS := mws (tb1 68 rfl) rfl
theorem kinst_X0 : Cond.instantiable RX0 6 ∈ WS := mws (tb1 77 rfl) rfl
theorem ki_X0_init : Cond.instanceMethod yX0_init ∈ WS := mws (tb1 79 rfl) rfl
theorem kc_X0_init : Cond.code yX0_init cX0_init 1 none ∈ WS := mws (tb1 80 rfl) rfl
theorem kl_X0_3 : Cond.methodLink RX0 3 objectInit ∈ WS := mws (tb1 81 rfl) rfl
theorem kf_X0_9 : Cond.fieldLink RX0 9 "CertifiedBooks$Entry" "procedure" "I" ∈ WS := mws (tb1 82 rfl) rfl
theorem kf_X0_15 : Cond.fieldLink RX0 15 "CertifiedBooks$Entry" "amount" "J" ∈ WS := mws (tb1 84 rfl) rfl
theorem kf_X0_19 : Cond.fieldLink RX0 19 "CertifiedBooks$Entry" "asker" "I" ∈ WS := mws (tb1 86 rfl) rfl
theorem kf_X0_22 : Cond.fieldLink RX0 22 "CertifiedBooks$Entry" "approver" "I" ∈ WS := mws (tb1 88 rfl) rfl
theorem kf_X0_25 : Cond.fieldLink RX0 25 "CertifiedBooks$Entry" "reversalOf" "I" ∈ WS := mws (tb1 90 rfl) rfl
theorem kf_X0_28 : Cond.fieldLink RX0 28 "CertifiedBooks$Entry" "reversedBy" "I" ∈ WS := mws (tb1 92 rfl) rfl
theorem kf_X3_9 : Cond.fieldLink RX3 9 "CertifiedBooks" "balances" "[J" ∈ WS := mws (tb1 107 rfl) rfl
theorem kf_X3_13 : Cond.fieldLink RX3 13 "CertifiedBooks" "floors" "[J" ∈ WS := mws (tb1 108 rfl) rfl
theorem kf_X3_18 : Cond.fieldLink RX3 18 "CertifiedBooks" "procedures" "[LCertifiedBooks$Procedure;" ∈ WS := mws (tb1 109 rfl) rfl
theorem kf_X3_22 : Cond.fieldLink RX3 22 "CertifiedBooks" "procedureCount" "I" ∈ WS := mws (tb1 110 rfl) rfl
theorem kf_X3_28 : Cond.fieldLink RX3 28 "CertifiedBooks" "requests" "[LCertifiedBooks$Request;" ∈ WS := mws (tb1 111 rfl) rfl
theorem kf_X3_34 : Cond.fieldLink RX3 34 "CertifiedBooks" "log" "[LCertifiedBooks$Entry;" ∈ WS := mws (tb1 112 rfl) rfl
theorem kf_X3_38 : Cond.fieldLink RX3 38 "CertifiedBooks" "entryCount" "I" ∈ WS := mws (tb1 113 rfl) rfl
theorem kf_X3_43 : Cond.fieldLink RX3 43 "CertifiedBooks" "totals" "[[J" ∈ WS := mws (tb1 114 rfl) rfl
theorem kf_X3_46 : Cond.fieldLink RX3 46 "CertifiedBooks" "postings" "[J" ∈ WS := mws (tb1 115 rfl) rfl
theorem kl_L_123 : Cond.methodLink RL 123 yX3_sound ∈ WS := mws (tb1 135 rfl) rfl
theorem ki_X3_sound : Cond.instanceMethod yX3_sound ∈ WS := mws (tb1 136 rfl) rfl
theorem kse_X3_sound : Cond.selects RX3 yX3_sound yX3_sound ∈ WS := mws (tb1 137 rfl) rfl
theorem kc_X3_sound : Cond.code yX3_sound cX3_sound 1 (some .boolean) ∈ WS := mws (tb1 138 rfl) rfl
theorem kl_X3_191 : Cond.methodLink RX3 191 yX3_countUnsoundBalances ∈ WS := mws (tb1 139 rfl) rfl
theorem ki_X3_countUnsoundBalances : Cond.instanceMethod yX3_countUnsoundBalances ∈ WS := mws (tb1 141 rfl) rfl
theorem kc_X3_countUnsoundBalances : Cond.code yX3_countUnsoundBalances cX3_countUnsoundBalances 3 (some .int) ∈ WS := mws (tb1 142 rfl) rfl
theorem kl_L_138 : Cond.methodLink RL 138 yX3_entries ∈ WS := mws (tb1 143 rfl) rfl
theorem ki_X3_entries : Cond.instanceMethod yX3_entries ∈ WS := mws (tb1 144 rfl) rfl
theorem kse_X3_entries : Cond.selects RX3 yX3_entries yX3_entries ∈ WS := mws (tb1 145 rfl) rfl
theorem kc_X3_entries : Cond.code yX3_entries cX3_entries 1 (some .int) ∈ WS := mws (tb1 146 rfl) rfl
theorem kl_L_151 : Cond.methodLink RL 151 yX3_mayRun ∈ WS := mws (tb1 147 rfl) rfl
theorem ki_X3_mayRun : Cond.instanceMethod yX3_mayRun ∈ WS := mws (tb1 148 rfl) rfl
theorem kse_X3_mayRun : Cond.selects RX3 yX3_mayRun yX3_mayRun ∈ WS := mws (tb1 149 rfl) rfl
theorem kc_X3_mayRun : Cond.code yX3_mayRun cX3_mayRun 4 (some .boolean) ∈ WS := mws (tb1 150 rfl) rfl
theorem kl_X3_206 : Cond.methodLink RX3 206 yX3_isUser ∈ WS := mws (tb1 151 rfl) rfl
theorem kst_X3_isUser : Cond.static yX3_isUser ∈ WS := mws (tb1 152 rfl) rfl
theorem kc_X3_isUser : Cond.code yX3_isUser cX3_isUser 1 (some .boolean) ∈ WS := mws (tb1 153 rfl) rfl
theorem kl_X3_209 : Cond.methodLink RX3 209 yX3_isProcedure ∈ WS := mws (tb1 154 rfl) rfl
theorem ki_X3_isProcedure : Cond.instanceMethod yX3_isProcedure ∈ WS := mws (tb1 156 rfl) rfl
theorem kc_X3_isProcedure : Cond.code yX3_isProcedure cX3_isProcedure 2 (some .boolean) ∈ WS := mws (tb1 157 rfl) rfl
theorem ki_X1_isCertified : Cond.instanceMethod yX1_isCertified ∈ WS := mws (tb1 160 rfl) rfl
theorem kc_X1_isCertified : Cond.code yX1_isCertified cX1_isCertified 1 (some .boolean) ∈ WS := mws (tb1 161 rfl) rfl
theorem kl_L_79 : Cond.methodLink RL 79 yL_draw ∈ WS := mws (tb1 162 rfl) rfl
theorem kst_L_draw : Cond.static yL_draw ∈ WS := mws (tb1 163 rfl) rfl
theorem kc_L_draw : Cond.codeWith yL_draw cL_draw 5 (some .int) [(0, 10, 13, 13), (0, 10, 17, 15), (0, 10, 21, 17)] ∈ WS := mws (tb1 164 rfl) rfl
theorem kcl_L_13 : Cond.classLink RL 13 "java/lang/IndexOutOfBoundsException" ∈ WS := mws (tb1 165 rfl) rfl
theorem kcl_L_15 : Cond.classLink RL 15 "java/lang/IllegalArgumentException" ∈ WS := mws (tb1 166 rfl) rfl
theorem kcl_L_17 : Cond.classLink RL 17 "java/lang/IllegalStateException" ∈ WS := mws (tb1 167 rfl) rfl
theorem kl_L_7 : Cond.methodLink RL 7 yX3_draw ∈ WS := mws (tb1 168 rfl) rfl
theorem ki_X3_draw : Cond.instanceMethod yX3_draw ∈ WS := mws (tb1 169 rfl) rfl
theorem kse_X3_draw : Cond.selects RX3 yX3_draw yX3_draw ∈ WS := mws (tb1 170 rfl) rfl
theorem kc_X3_draw : Cond.code yX3_draw cX3_draw 4 (some .int) ∈ WS := mws (tb1 171 rfl) rfl
theorem kl_X3_54 : Cond.methodLink RX3 54 yX3_requireAccount ∈ WS := mws (tb1 172 rfl) rfl
theorem kst_X3_requireAccount : Cond.static yX3_requireAccount ∈ WS := mws (tb1 173 rfl) rfl
theorem kc_X3_requireAccount : Cond.code yX3_requireAccount cX3_requireAccount 1 none ∈ WS := mws (tb1 174 rfl) rfl
theorem kcl_X3_194 : Cond.classLink RX3 194 "java/lang/IndexOutOfBoundsException" ∈ WS := mws (tb1 175 rfl) rfl
theorem kinst_IndexOutOfBoundsException : Cond.instantiable "java/lang/IndexOutOfBoundsException" 6 ∈ WS := mws (tb1 176 rfl) rfl
theorem kinst_Throwable : Cond.instantiable "java/lang/Throwable" 6 ∈ WS := mws (tb1 215 rfl) rfl
theorem kac_byte : Cond.arrayClass .byte ∈ WS := mws (tb2 3 rfl) rfl
theorem kl_X3_58 : Cond.methodLink RX3 58 yX3_requireShare ∈ WS := mws (tb2 4 rfl) rfl
theorem kst_X3_requireShare : Cond.static yX3_requireShare ∈ WS := mws (tb2 5 rfl) rfl
theorem kc_X3_requireShare : Cond.code yX3_requireShare cX3_requireShare 1 none ∈ WS := mws (tb2 6 rfl) rfl
theorem kcl_X3_79 : Cond.classLink RX3 79 "java/lang/IllegalArgumentException" ∈ WS := mws (tb2 7 rfl) rfl
theorem kinst_IllegalArgumentException : Cond.instantiable "java/lang/IllegalArgumentException" 6 ∈ WS := mws (tb2 8 rfl) rfl
theorem kcl_X3_61 : Cond.classLink RX3 61 "java/lang/IllegalStateException" ∈ WS := mws (tb2 23 rfl) rfl
theorem kinst_IllegalStateException : Cond.instantiable "java/lang/IllegalStateException" 6 ∈ WS := mws (tb2 24 rfl) rfl
theorem ki_X1_appendLine : Cond.instanceMethod yX1_appendLine ∈ WS := mws (tb2 41 rfl) rfl
theorem kc_X1_appendLine : Cond.code yX1_appendLine cX1_appendLine 3 none ∈ WS := mws (tb2 42 rfl) rfl
theorem kl_L_89 : Cond.methodLink RL 89 yL_add ∈ WS := mws (tb2 43 rfl) rfl
theorem kst_L_add : Cond.static yL_add ∈ WS := mws (tb2 44 rfl) rfl
theorem kc_L_add : Cond.codeWith yL_add cL_add 6 (some .int) [(0, 12, 15, 13), (0, 12, 19, 15), (0, 12, 23, 17)] ∈ WS := mws (tb2 45 rfl) rfl
theorem kl_L_19 : Cond.methodLink RL 19 yX3_add ∈ WS := mws (tb2 46 rfl) rfl
theorem ki_X3_add : Cond.instanceMethod yX3_add ∈ WS := mws (tb2 47 rfl) rfl
theorem kse_X3_add : Cond.selects RX3 yX3_add yX3_add ∈ WS := mws (tb2 48 rfl) rfl
theorem kc_X3_add : Cond.code yX3_add cX3_add 5 (some .int) ∈ WS := mws (tb2 49 rfl) rfl
theorem kl_X3_72 : Cond.methodLink RX3 72 yX3_requireProcedure ∈ WS := mws (tb2 50 rfl) rfl
theorem ki_X3_requireProcedure : Cond.instanceMethod yX3_requireProcedure ∈ WS := mws (tb2 52 rfl) rfl
theorem kc_X3_requireProcedure : Cond.code yX3_requireProcedure cX3_requireProcedure 2 none ∈ WS := mws (tb2 53 rfl) rfl
theorem ki_X1_hasLineFor : Cond.instanceMethod yX1_hasLineFor ∈ WS := mws (tb2 57 rfl) rfl
theorem kc_X1_hasLineFor : Cond.code yX1_hasLineFor cX1_hasLineFor 3 (some .boolean) ∈ WS := mws (tb2 58 rfl) rfl
theorem kl_L_93 : Cond.methodLink RL 93 yL_certify ∈ WS := mws (tb2 61 rfl) rfl
theorem kst_L_certify : Cond.static yL_certify ∈ WS := mws (tb2 62 rfl) rfl
theorem kc_L_certify : Cond.codeWith yL_certify cL_certify 4 (some .int) [(0, 6, 9, 13), (0, 6, 12, 27), (0, 6, 15, 17)] ∈ WS := mws (tb2 63 rfl) rfl
theorem kcl_L_27 : Cond.classLink RL 27 "java/lang/UnsupportedOperationException" ∈ WS := mws (tb2 64 rfl) rfl
theorem kl_L_23 : Cond.methodLink RL 23 yX3_certify ∈ WS := mws (tb2 65 rfl) rfl
theorem ki_X3_certify : Cond.instanceMethod yX3_certify ∈ WS := mws (tb2 66 rfl) rfl
theorem kse_X3_certify : Cond.selects RX3 yX3_certify yX3_certify ∈ WS := mws (tb2 67 rfl) rfl
theorem kc_X3_certify : Cond.code yX3_certify cX3_certify 4 none ∈ WS := mws (tb2 68 rfl) rfl
theorem kl_X3_93 : Cond.methodLink RX3 93 yX3_requireUser ∈ WS := mws (tb2 69 rfl) rfl
theorem kst_X3_requireUser : Cond.static yX3_requireUser ∈ WS := mws (tb2 70 rfl) rfl
theorem kc_X3_requireUser : Cond.code yX3_requireUser cX3_requireUser 1 none ∈ WS := mws (tb2 71 rfl) rfl
theorem kl_X3_96 : Cond.methodLink RX3 96 yX3_requireOfficer ∈ WS := mws (tb2 73 rfl) rfl
theorem kst_X3_requireOfficer : Cond.static yX3_requireOfficer ∈ WS := mws (tb2 74 rfl) rfl
theorem kc_X3_requireOfficer : Cond.code yX3_requireOfficer cX3_requireOfficer 1 none ∈ WS := mws (tb2 75 rfl) rfl
theorem kcl_X3_108 : Cond.classLink RX3 108 "java/lang/UnsupportedOperationException" ∈ WS := mws (tb2 76 rfl) rfl
theorem kinst_UnsupportedOperationException : Cond.instantiable "java/lang/UnsupportedOperationException" 6 ∈ WS := mws (tb2 77 rfl) rfl
theorem ki_X1_shareSum : Cond.instanceMethod yX1_shareSum ∈ WS := mws (tb2 94 rfl) rfl
theorem kc_X1_shareSum : Cond.code yX1_shareSum cX1_shareSum 3 (some .int) ∈ WS := mws (tb2 95 rfl) rfl
theorem kl_L_97 : Cond.methodLink RL 97 yL_grant ∈ WS := mws (tb2 97 rfl) rfl
theorem kst_L_grant : Cond.static yL_grant ∈ WS := mws (tb2 98 rfl) rfl
theorem kc_L_grant : Cond.codeWith yL_grant cL_grant 7 (some .int) [(0, 21, 24, 13), (0, 21, 28, 27)] ∈ WS := mws (tb2 99 rfl) rfl
theorem kl_L_29 : Cond.methodLink RL 29 yX3_grant ∈ WS := mws (tb2 100 rfl) rfl
theorem ki_X3_grant : Cond.instanceMethod yX3_grant ∈ WS := mws (tb2 101 rfl) rfl
theorem kse_X3_grant : Cond.selects RX3 yX3_grant yX3_grant ∈ WS := mws (tb2 102 rfl) rfl
theorem kc_X3_grant : Cond.code yX3_grant cX3_grant 7 (some .boolean) ∈ WS := mws (tb2 103 rfl) rfl
theorem kl_L_103 : Cond.methodLink RL 103 yL_floor ∈ WS := mws (tb2 105 rfl) rfl
theorem kst_L_floor : Cond.static yL_floor ∈ WS := mws (tb2 106 rfl) rfl
theorem kc_L_floor : Cond.codeWith yL_floor cL_floor 7 (some .int) [(0, 11, 14, 13), (0, 11, 18, 27), (0, 11, 22, 15)] ∈ WS := mws (tb2 107 rfl) rfl
theorem kl_L_33 : Cond.methodLink RL 33 yX3_floor ∈ WS := mws (tb2 108 rfl) rfl
theorem ki_X3_floor : Cond.instanceMethod yX3_floor ∈ WS := mws (tb2 109 rfl) rfl
theorem kse_X3_floor : Cond.selects RX3 yX3_floor yX3_floor ∈ WS := mws (tb2 110 rfl) rfl
theorem kc_X3_floor : Cond.code yX3_floor cX3_floor 7 (some .long) ∈ WS := mws (tb2 111 rfl) rfl
theorem kl_X3_117 : Cond.methodLink RX3 117 yX3_isBeyondLimit ∈ WS := mws (tb2 112 rfl) rfl
theorem kst_X3_isBeyondLimit : Cond.static yX3_isBeyondLimit ∈ WS := mws (tb2 113 rfl) rfl
theorem kc_X3_isBeyondLimit : Cond.code yX3_isBeyondLimit cX3_isBeyondLimit 2 (some .boolean) ∈ WS := mws (tb2 114 rfl) rfl
theorem kcn_X3_249 : Cond.constantLong RX3 249 (1000000000000) ∈ WS := mws (tb2 115 rfl) rfl
theorem kl_L_107 : Cond.methodLink RL 107 yL_ask ∈ WS := mws (tb2 117 rfl) rfl
theorem kst_L_ask : Cond.static yL_ask ∈ WS := mws (tb2 118 rfl) rfl
theorem kc_L_ask : Cond.codeWith yL_ask cL_ask 7 (some .int) [(0, 12, 15, 13), (0, 12, 19, 27), (0, 12, 23, 15), (0, 12, 27, 17)] ∈ WS := mws (tb2 119 rfl) rfl
theorem kl_L_37 : Cond.methodLink RL 37 yX3_ask ∈ WS := mws (tb2 120 rfl) rfl
theorem ki_X3_ask : Cond.instanceMethod yX3_ask ∈ WS := mws (tb2 121 rfl) rfl
theorem kse_X3_ask : Cond.selects RX3 yX3_ask yX3_ask ∈ WS := mws (tb2 122 rfl) rfl
theorem kc_X3_ask : Cond.code yX3_ask cX3_ask 5 (some .int) ∈ WS := mws (tb2 123 rfl) rfl
theorem kl_X3_123 : Cond.methodLink RX3 123 yX3_requireMayRun ∈ WS := mws (tb2 124 rfl) rfl
theorem ki_X3_requireMayRun : Cond.instanceMethod yX3_requireMayRun ∈ WS := mws (tb2 126 rfl) rfl
theorem kc_X3_requireMayRun : Cond.code yX3_requireMayRun cX3_requireMayRun 3 none ∈ WS := mws (tb2 127 rfl) rfl
theorem kl_X3_212 : Cond.methodLink RX3 212 yX3_mayRun ∈ WS := mws (tb2 128 rfl) rfl
theorem kcn_X3_126 : Cond.constantLong RX3 126 (100000000000) ∈ WS := mws (tb2 130 rfl) rfl
theorem kl_X3_130 : Cond.methodLink RX3 130 yX3_requireBooksTakeRun ∈ WS := mws (tb2 132 rfl) rfl
theorem ki_X3_requireBooksTakeRun : Cond.instanceMethod yX3_requireBooksTakeRun ∈ WS := mws (tb2 134 rfl) rfl
theorem kc_X3_requireBooksTakeRun : Cond.code yX3_requireBooksTakeRun cX3_requireBooksTakeRun 1 none ∈ WS := mws (tb2 135 rfl) rfl
theorem kcn_X3_133 : Cond.constantLong RX3 133 (10000) ∈ WS := mws (tb2 138 rfl) rfl
theorem kl_X3_135 : Cond.methodLink RX3 135 yX3_fileRequest ∈ WS := mws (tb2 139 rfl) rfl
theorem ki_X3_fileRequest : Cond.instanceMethod yX3_fileRequest ∈ WS := mws (tb2 141 rfl) rfl
theorem kc_X3_fileRequest : Cond.code yX3_fileRequest cX3_fileRequest 6 (some .int) ∈ WS := mws (tb2 142 rfl) rfl
theorem ki_X2_isInUse : Cond.instanceMethod yX2_isInUse ∈ WS := mws (tb2 145 rfl) rfl
theorem kc_X2_isInUse : Cond.code yX2_isInUse cX2_isInUse 1 (some .boolean) ∈ WS := mws (tb2 146 rfl) rfl
theorem ki_X2_fill : Cond.instanceMethod yX2_fill ∈ WS := mws (tb2 149 rfl) rfl
theorem kc_X2_fill : Cond.code yX2_fill cX2_fill 5 none ∈ WS := mws (tb2 150 rfl) rfl
theorem kl_X3_139 : Cond.methodLink RX3 139 yX3_runAndLog ∈ WS := mws (tb2 152 rfl) rfl
theorem ki_X3_runAndLog : Cond.instanceMethod yX3_runAndLog ∈ WS := mws (tb2 154 rfl) rfl
theorem kc_X3_runAndLog : Cond.code yX3_runAndLog cX3_runAndLog 11 (some .int) ∈ WS := mws (tb2 155 rfl) rfl
theorem ki_X1_computePostings : Cond.instanceMethod yX1_computePostings ∈ WS := mws (tb2 158 rfl) rfl
theorem kc_X1_computePostings : Cond.code yX1_computePostings cX1_computePostings 7 none ∈ WS := mws (tb2 159 rfl) rfl
theorem kcn_X1_29 : Cond.constantLong RX1 29 (100) ∈ WS := mws (tb2 160 rfl) rfl
theorem kl_X3_229 : Cond.methodLink RX3 229 yX3_negatePostings ∈ WS := mws (tb2 161 rfl) rfl
theorem ki_X3_negatePostings : Cond.instanceMethod yX3_negatePostings ∈ WS := mws (tb2 163 rfl) rfl
theorem kc_X3_negatePostings : Cond.code yX3_negatePostings cX3_negatePostings 2 none ∈ WS := mws (tb2 164 rfl) rfl
theorem kl_X3_232 : Cond.methodLink RX3 232 yX3_requireNoLineFails ∈ WS := mws (tb2 165 rfl) rfl
theorem ki_X3_requireNoLineFails : Cond.instanceMethod yX3_requireNoLineFails ∈ WS := mws (tb2 167 rfl) rfl
theorem kc_X3_requireNoLineFails : Cond.code yX3_requireNoLineFails cX3_requireNoLineFails 8 none ∈ WS := mws (tb2 168 rfl) rfl
theorem kl_X3_236 : Cond.methodLink RX3 236 arraycopyName ∈ WS := mws (tb2 170 rfl) rfl
theorem kstatic_arraycopy : Cond.static arraycopyName ∈ WS := mws (tb2 171 rfl) rfl
theorem knative_arraycopy : Cond.native arraycopyName ∈ WS := mws (tb2 172 rfl) rfl
theorem ki_X0_fill : Cond.instanceMethod yX0_fill ∈ WS := mws (tb2 175 rfl) rfl
theorem kc_X0_fill : Cond.code yX0_fill cX0_fill 7 none ∈ WS := mws (tb2 176 rfl) rfl
theorem kl_L_110 : Cond.methodLink RL 110 yL_approve ∈ WS := mws (tb2 177 rfl) rfl
theorem kst_L_approve : Cond.static yL_approve ∈ WS := mws (tb2 178 rfl) rfl
theorem kc_L_approve : Cond.codeWith yL_approve cL_approve 5 (some .int) [(0, 10, 13, 13), (0, 10, 17, 27), (0, 10, 21, 17)] ∈ WS := mws (tb2 179 rfl) rfl
theorem kl_L_41 : Cond.methodLink RL 41 yX3_approve ∈ WS := mws (tb2 180 rfl) rfl
theorem ki_X3_approve : Cond.instanceMethod yX3_approve ∈ WS := mws (tb2 181 rfl) rfl
theorem kse_X3_approve : Cond.selects RX3 yX3_approve yX3_approve ∈ WS := mws (tb2 182 rfl) rfl
theorem kc_X3_approve : Cond.code yX3_approve cX3_approve 5 (some .int) ∈ WS := mws (tb2 183 rfl) rfl
theorem kl_X3_143 : Cond.methodLink RX3 143 yX3_requireRequest ∈ WS := mws (tb2 184 rfl) rfl
theorem ki_X3_requireRequest : Cond.instanceMethod yX3_requireRequest ∈ WS := mws (tb2 186 rfl) rfl
theorem kc_X3_requireRequest : Cond.code yX3_requireRequest cX3_requireRequest 2 none ∈ WS := mws (tb2 187 rfl) rfl
theorem kl_X3_146 : Cond.methodLink RX3 146 yX3_mayApprove ∈ WS := mws (tb2 189 rfl) rfl
theorem ki_X3_mayApprove : Cond.instanceMethod yX3_mayApprove ∈ WS := mws (tb2 191 rfl) rfl
theorem kc_X3_mayApprove : Cond.code yX3_mayApprove cX3_mayApprove 3 (some .boolean) ∈ WS := mws (tb2 192 rfl) rfl
theorem ki_X2_clear : Cond.instanceMethod yX2_clear ∈ WS := mws (tb2 196 rfl) rfl
theorem kc_X2_clear : Cond.code yX2_clear cX2_clear 1 none ∈ WS := mws (tb2 197 rfl) rfl
theorem kl_L_113 : Cond.methodLink RL 113 yL_withdraw ∈ WS := mws (tb2 198 rfl) rfl
theorem kst_L_withdraw : Cond.static yL_withdraw ∈ WS := mws (tb2 199 rfl) rfl
theorem kc_L_withdraw : Cond.codeWith yL_withdraw cL_withdraw 4 (some .int) [(0, 6, 9, 13), (0, 6, 12, 27)] ∈ WS := mws (tb2 200 rfl) rfl
theorem kl_L_44 : Cond.methodLink RL 44 yX3_withdraw ∈ WS := mws (tb2 201 rfl) rfl
theorem ki_X3_withdraw : Cond.instanceMethod yX3_withdraw ∈ WS := mws (tb2 202 rfl) rfl
theorem kse_X3_withdraw : Cond.selects RX3 yX3_withdraw yX3_withdraw ∈ WS := mws (tb2 203 rfl) rfl
theorem kc_X3_withdraw : Cond.code yX3_withdraw cX3_withdraw 4 none ∈ WS := mws (tb2 204 rfl) rfl
theorem kl_L_116 : Cond.methodLink RL 116 yL_reverse ∈ WS := mws (tb2 206 rfl) rfl
theorem kst_L_reverse : Cond.static yL_reverse ∈ WS := mws (tb2 207 rfl) rfl
theorem kc_L_reverse : Cond.codeWith yL_reverse cL_reverse 5 (some .int) [(0, 10, 13, 13), (0, 10, 17, 27), (0, 10, 21, 17)] ∈ WS := mws (tb2 208 rfl) rfl
theorem kl_L_47 : Cond.methodLink RL 47 yX3_reverse ∈ WS := mws (tb2 209 rfl) rfl
theorem ki_X3_reverse : Cond.instanceMethod yX3_reverse ∈ WS := mws (tb2 210 rfl) rfl
theorem kse_X3_reverse : Cond.selects RX3 yX3_reverse yX3_reverse ∈ WS := mws (tb2 211 rfl) rfl
theorem kc_X3_reverse : Cond.code yX3_reverse cX3_reverse 5 (some .int) ∈ WS := mws (tb2 212 rfl) rfl
theorem kl_X3_167 : Cond.methodLink RX3 167 yX3_requireEntry ∈ WS := mws (tb2 213 rfl) rfl
theorem ki_X3_requireEntry : Cond.instanceMethod yX3_requireEntry ∈ WS := mws (tb2 215 rfl) rfl
theorem kc_X3_requireEntry : Cond.code yX3_requireEntry cX3_requireEntry 2 none ∈ WS := mws (tb2 216 rfl) rfl
theorem kl_L_119 : Cond.methodLink RL 119 yL_tamper ∈ WS := mws (tb2 220 rfl) rfl
theorem kst_L_tamper : Cond.static yL_tamper ∈ WS := mws (tb2 221 rfl) rfl
theorem kc_L_tamper : Cond.codeWith yL_tamper cL_tamper 6 (some .int) [(0, 10, 13, 13), (0, 10, 17, 15), (0, 10, 21, 17)] ∈ WS := mws (tb2 222 rfl) rfl
theorem kl_L_50 : Cond.methodLink RL 50 yX3_tamper ∈ WS := mws (tb2 223 rfl) rfl
theorem ki_X3_tamper : Cond.instanceMethod yX3_tamper ∈ WS := mws (tb2 224 rfl) rfl
theorem kse_X3_tamper : Cond.selects RX3 yX3_tamper yX3_tamper ∈ WS := mws (tb2 225 rfl) rfl
theorem kc_X3_tamper : Cond.code yX3_tamper cX3_tamper 6 (some .long) ∈ WS := mws (tb2 226 rfl) rfl
theorem kcn_X3_183 : Cond.constantLong RX3 183 (-1000000) ∈ WS := mws (tb2 227 rfl) rfl
theorem kcn_X3_185 : Cond.constantLong RX3 185 (1000000) ∈ WS := mws (tb2 228 rfl) rfl
theorem kl_L_128 : Cond.methodLink RL 128 yL_restore ∈ WS := mws (tb2 231 rfl) rfl
theorem kst_L_restore : Cond.static yL_restore ∈ WS := mws (tb2 232 rfl) rfl
theorem kc_L_restore : Cond.codeWith yL_restore cL_restore 4 (some .int) [(0, 9, 12, 13), (0, 9, 15, 27)] ∈ WS := mws (tb2 233 rfl) rfl
theorem kl_L_54 : Cond.methodLink RL 54 yX3_restore ∈ WS := mws (tb2 234 rfl) rfl
theorem ki_X3_restore : Cond.instanceMethod yX3_restore ∈ WS := mws (tb2 235 rfl) rfl
theorem kse_X3_restore : Cond.selects RX3 yX3_restore yX3_restore ∈ WS := mws (tb2 236 rfl) rfl
theorem kc_X3_restore : Cond.code yX3_restore cX3_restore 4 (some .int) ∈ WS := mws (tb2 237 rfl) rfl
theorem kl_L_132 : Cond.methodLink RL 132 yL_balance ∈ WS := mws (tb2 238 rfl) rfl
theorem kst_L_balance : Cond.static yL_balance ∈ WS := mws (tb2 239 rfl) rfl
theorem kc_L_balance : Cond.codeWith yL_balance cL_balance 4 (some .int) [(0, 8, 11, 13)] ∈ WS := mws (tb3 0 rfl) rfl
theorem kl_L_58 : Cond.methodLink RL 58 yX3_balance ∈ WS := mws (tb3 1 rfl) rfl
theorem ki_X3_balance : Cond.instanceMethod yX3_balance ∈ WS := mws (tb3 2 rfl) rfl
theorem kse_X3_balance : Cond.selects RX3 yX3_balance yX3_balance ∈ WS := mws (tb3 3 rfl) rfl
theorem kc_X3_balance : Cond.code yX3_balance cX3_balance 2 (some .long) ∈ WS := mws (tb3 4 rfl) rfl
theorem kl_L_135 : Cond.methodLink RL 135 yL_balanceAt ∈ WS := mws (tb3 5 rfl) rfl
theorem kst_L_balanceAt : Cond.static yL_balanceAt ∈ WS := mws (tb3 6 rfl) rfl
theorem kc_L_balanceAt : Cond.codeWith yL_balanceAt cL_balanceAt 5 (some .int) [(0, 9, 12, 13)] ∈ WS := mws (tb3 7 rfl) rfl
theorem kl_L_62 : Cond.methodLink RL 62 yX3_balanceAt ∈ WS := mws (tb3 8 rfl) rfl
theorem ki_X3_balanceAt : Cond.instanceMethod yX3_balanceAt ∈ WS := mws (tb3 9 rfl) rfl
theorem kse_X3_balanceAt : Cond.selects RX3 yX3_balanceAt yX3_balanceAt ∈ WS := mws (tb3 10 rfl) rfl
theorem kc_X3_balanceAt : Cond.code yX3_balanceAt cX3_balanceAt 3 (some .long) ∈ WS := mws (tb3 11 rfl) rfl
theorem kl_L_142 : Cond.methodLink RL 142 yL_entry ∈ WS := mws (tb3 13 rfl) rfl
theorem kst_L_entry : Cond.static yL_entry ∈ WS := mws (tb3 14 rfl) rfl
theorem kc_L_entry : Cond.codeWith yL_entry cL_entry 5 (some .int) [(0, 10, 13, 13)] ∈ WS := mws (tb3 15 rfl) rfl
theorem kl_L_66 : Cond.methodLink RL 66 yX3_entry ∈ WS := mws (tb3 16 rfl) rfl
theorem ki_X3_entry : Cond.instanceMethod yX3_entry ∈ WS := mws (tb3 17 rfl) rfl
theorem kse_X3_entry : Cond.selects RX3 yX3_entry yX3_entry ∈ WS := mws (tb3 18 rfl) rfl
theorem kc_X3_entry : Cond.code yX3_entry cX3_entry 4 (some .int) ∈ WS := mws (tb3 19 rfl) rfl
theorem kl_L_145 : Cond.methodLink RL 145 yL_amount ∈ WS := mws (tb3 21 rfl) rfl
theorem kst_L_amount : Cond.static yL_amount ∈ WS := mws (tb3 22 rfl) rfl
theorem kc_L_amount : Cond.codeWith yL_amount cL_amount 4 (some .int) [(0, 8, 11, 13)] ∈ WS := mws (tb3 23 rfl) rfl
theorem kl_L_69 : Cond.methodLink RL 69 yX3_amount ∈ WS := mws (tb3 24 rfl) rfl
theorem ki_X3_amount : Cond.instanceMethod yX3_amount ∈ WS := mws (tb3 25 rfl) rfl
theorem kse_X3_amount : Cond.selects RX3 yX3_amount yX3_amount ∈ WS := mws (tb3 26 rfl) rfl
theorem kc_X3_amount : Cond.code yX3_amount cX3_amount 2 (some .long) ∈ WS := mws (tb3 27 rfl) rfl
theorem kl_L_148 : Cond.methodLink RL 148 yL_requested ∈ WS := mws (tb3 28 rfl) rfl
theorem kst_L_requested : Cond.static yL_requested ∈ WS := mws (tb3 29 rfl) rfl
theorem kc_L_requested : Cond.codeWith yL_requested cL_requested 4 (some .int) [(0, 9, 12, 13)] ∈ WS := mws (tb3 30 rfl) rfl
theorem kl_L_72 : Cond.methodLink RL 72 yX3_requested ∈ WS := mws (tb3 31 rfl) rfl
theorem ki_X3_requested : Cond.instanceMethod yX3_requested ∈ WS := mws (tb3 32 rfl) rfl
theorem kse_X3_requested : Cond.selects RX3 yX3_requested yX3_requested ∈ WS := mws (tb3 33 rfl) rfl
theorem kc_X3_requested : Cond.code yX3_requested cX3_requested 2 (some .int) ∈ WS := mws (tb3 34 rfl) rfl
theorem kcl_L_76 : Cond.classLink RL 76 RX4 ∈ WS := mws (tb3 36 rfl) rfl
theorem kinst_X4 : Cond.instantiable RX4 20 ∈ WS := mws (tb3 37 rfl) rfl
theorem kl_L_78 : Cond.methodLink RL 78 yX4_init ∈ WS := mws (tb3 38 rfl) rfl
theorem ki_X4_init : Cond.instanceMethod yX4_init ∈ WS := mws (tb3 39 rfl) rfl
theorem kc_X4_init : Cond.code yX4_init cX4_init 2 none ∈ WS := mws (tb3 40 rfl) rfl
theorem kl_X4_1 : Cond.methodLink RX4 1 objectInit ∈ WS := mws (tb3 41 rfl) rfl
theorem kcn_X4_63 : Cond.constantLong RX4 63 (-1000000000000) ∈ WS := mws (tb3 42 rfl) rfl
theorem kf_X4_65 : Cond.fieldLink RX4 65 "CertifiedBooksModel" "thrown" "I" ∈ WS := mws (tb3 43 rfl) rfl
theorem kf_X4_7 : Cond.fieldLink RX4 7 "CertifiedBooksModel" "balances" "[J" ∈ WS := mws (tb3 44 rfl) rfl
theorem kf_X4_13 : Cond.fieldLink RX4 13 "CertifiedBooksModel" "floors" "[J" ∈ WS := mws (tb3 45 rfl) rfl
theorem kf_X4_69 : Cond.fieldLink RX4 69 "CertifiedBooksModel" "procedures" "I" ∈ WS := mws (tb3 46 rfl) rfl
theorem kf_X4_16 : Cond.fieldLink RX4 16 "CertifiedBooksModel" "lines" "[I" ∈ WS := mws (tb3 47 rfl) rfl
theorem kf_X4_20 : Cond.fieldLink RX4 20 "CertifiedBooksModel" "certifier" "[I" ∈ WS := mws (tb3 48 rfl) rfl
theorem kf_X4_23 : Cond.fieldLink RX4 23 "CertifiedBooksModel" "accounts" "[I" ∈ WS := mws (tb3 49 rfl) rfl
theorem kf_X4_26 : Cond.fieldLink RX4 26 "CertifiedBooksModel" "shares" "[I" ∈ WS := mws (tb3 50 rfl) rfl
theorem kf_X4_29 : Cond.fieldLink RX4 29 "CertifiedBooksModel" "granted" "[Z" ∈ WS := mws (tb3 51 rfl) rfl
theorem kf_X4_104 : Cond.fieldLink RX4 104 "CertifiedBooksModel" "entries" "I" ∈ WS := mws (tb3 52 rfl) rfl
theorem kf_X4_33 : Cond.fieldLink RX4 33 "CertifiedBooksModel" "ran" "[I" ∈ WS := mws (tb3 53 rfl) rfl
theorem kf_X4_36 : Cond.fieldLink RX4 36 "CertifiedBooksModel" "amounts" "[J" ∈ WS := mws (tb3 54 rfl) rfl
theorem kf_X4_39 : Cond.fieldLink RX4 39 "CertifiedBooksModel" "asker" "[I" ∈ WS := mws (tb3 55 rfl) rfl
theorem kf_X4_42 : Cond.fieldLink RX4 42 "CertifiedBooksModel" "approver" "[I" ∈ WS := mws (tb3 56 rfl) rfl
theorem kf_X4_45 : Cond.fieldLink RX4 45 "CertifiedBooksModel" "reversalOf" "[I" ∈ WS := mws (tb3 57 rfl) rfl
theorem kf_X4_48 : Cond.fieldLink RX4 48 "CertifiedBooksModel" "reversedBy" "[I" ∈ WS := mws (tb3 58 rfl) rfl
theorem kf_X4_51 : Cond.fieldLink RX4 51 "CertifiedBooksModel" "who" "[I" ∈ WS := mws (tb3 59 rfl) rfl
theorem kf_X4_54 : Cond.fieldLink RX4 54 "CertifiedBooksModel" "wanted" "[I" ∈ WS := mws (tb3 60 rfl) rfl
theorem kf_X4_57 : Cond.fieldLink RX4 57 "CertifiedBooksModel" "sums" "[J" ∈ WS := mws (tb3 61 rfl) rfl
theorem kf_X4_60 : Cond.fieldLink RX4 60 "CertifiedBooksModel" "posts" "[J" ∈ WS := mws (tb3 62 rfl) rfl
theorem kl_L_85 : Cond.methodLink RL 85 yX4_thrown ∈ WS := mws (tb3 104 rfl) rfl
theorem ki_X4_thrown : Cond.instanceMethod yX4_thrown ∈ WS := mws (tb3 105 rfl) rfl
theorem kse_X4_thrown : Cond.selects RX4 yX4_thrown yX4_thrown ∈ WS := mws (tb3 106 rfl) rfl
theorem kc_X4_thrown : Cond.code yX4_thrown cX4_thrown 1 (some .int) ∈ WS := mws (tb3 107 rfl) rfl
theorem kl_L_84 : Cond.methodLink RL 84 yX4_draw ∈ WS := mws (tb3 108 rfl) rfl
theorem ki_X4_draw : Cond.instanceMethod yX4_draw ∈ WS := mws (tb3 109 rfl) rfl
theorem kse_X4_draw : Cond.selects RX4 yX4_draw yX4_draw ∈ WS := mws (tb3 110 rfl) rfl
theorem kc_X4_draw : Cond.code yX4_draw cX4_draw 4 (some .int) ∈ WS := mws (tb3 111 rfl) rfl
theorem kl_X4_72 : Cond.methodLink RX4 72 yX4_isOne ∈ WS := mws (tb3 112 rfl) rfl
theorem kst_X4_isOne : Cond.static yX4_isOne ∈ WS := mws (tb3 113 rfl) rfl
theorem kc_X4_isOne : Cond.code yX4_isOne cX4_isOne 1 (some .boolean) ∈ WS := mws (tb3 114 rfl) rfl
theorem kl_X4_76 : Cond.methodLink RX4 76 yX4_isShare ∈ WS := mws (tb3 115 rfl) rfl
theorem kst_X4_isShare : Cond.static yX4_isShare ∈ WS := mws (tb3 116 rfl) rfl
theorem kc_X4_isShare : Cond.code yX4_isShare cX4_isShare 1 (some .boolean) ∈ WS := mws (tb3 117 rfl) rfl
theorem kl_L_92 : Cond.methodLink RL 92 yX4_add ∈ WS := mws (tb3 118 rfl) rfl
theorem ki_X4_add : Cond.instanceMethod yX4_add ∈ WS := mws (tb3 119 rfl) rfl
theorem kse_X4_add : Cond.selects RX4 yX4_add yX4_add ∈ WS := mws (tb3 120 rfl) rfl
theorem kc_X4_add : Cond.code yX4_add cX4_add 4 (some .int) ∈ WS := mws (tb3 121 rfl) rfl
theorem kl_X4_79 : Cond.methodLink RX4 79 yX4_isProcedure ∈ WS := mws (tb3 122 rfl) rfl
theorem ki_X4_isProcedure : Cond.instanceMethod yX4_isProcedure ∈ WS := mws (tb3 124 rfl) rfl
theorem kc_X4_isProcedure : Cond.code yX4_isProcedure cX4_isProcedure 2 (some .boolean) ∈ WS := mws (tb3 125 rfl) rfl
theorem kl_X4_82 : Cond.methodLink RX4 82 yX4_hasLine ∈ WS := mws (tb3 126 rfl) rfl
theorem ki_X4_hasLine : Cond.instanceMethod yX4_hasLine ∈ WS := mws (tb3 128 rfl) rfl
theorem kc_X4_hasLine : Cond.code yX4_hasLine cX4_hasLine 5 (some .boolean) ∈ WS := mws (tb3 129 rfl) rfl
theorem kl_L_96 : Cond.methodLink RL 96 yX4_certify ∈ WS := mws (tb3 130 rfl) rfl
theorem ki_X4_certify : Cond.instanceMethod yX4_certify ∈ WS := mws (tb3 131 rfl) rfl
theorem kse_X4_certify : Cond.selects RX4 yX4_certify yX4_certify ∈ WS := mws (tb3 132 rfl) rfl
theorem kc_X4_certify : Cond.code yX4_certify cX4_certify 3 none ∈ WS := mws (tb3 133 rfl) rfl
theorem kl_X4_86 : Cond.methodLink RX4 86 yX4_isOfficer ∈ WS := mws (tb3 134 rfl) rfl
theorem kst_X4_isOfficer : Cond.static yX4_isOfficer ∈ WS := mws (tb3 135 rfl) rfl
theorem kc_X4_isOfficer : Cond.code yX4_isOfficer cX4_isOfficer 1 (some .boolean) ∈ WS := mws (tb3 136 rfl) rfl
theorem kl_X4_89 : Cond.methodLink RX4 89 yX4_allShares ∈ WS := mws (tb3 137 rfl) rfl
theorem ki_X4_allShares : Cond.instanceMethod yX4_allShares ∈ WS := mws (tb3 139 rfl) rfl
theorem kc_X4_allShares : Cond.code yX4_allShares cX4_allShares 4 (some .int) ∈ WS := mws (tb3 140 rfl) rfl
theorem kl_L_100 : Cond.methodLink RL 100 yX4_grant ∈ WS := mws (tb3 141 rfl) rfl
theorem ki_X4_grant : Cond.instanceMethod yX4_grant ∈ WS := mws (tb3 142 rfl) rfl
theorem kse_X4_grant : Cond.selects RX4 yX4_grant yX4_grant ∈ WS := mws (tb3 143 rfl) rfl
theorem kc_X4_grant : Cond.code yX4_grant cX4_grant 6 (some .boolean) ∈ WS := mws (tb3 144 rfl) rfl
theorem kl_L_155 : Cond.methodLink RL 155 yX4_mayRun ∈ WS := mws (tb3 145 rfl) rfl
theorem ki_X4_mayRun : Cond.instanceMethod yX4_mayRun ∈ WS := mws (tb3 146 rfl) rfl
theorem kse_X4_mayRun : Cond.selects RX4 yX4_mayRun yX4_mayRun ∈ WS := mws (tb3 147 rfl) rfl
theorem kc_X4_mayRun : Cond.code yX4_mayRun cX4_mayRun 3 (some .boolean) ∈ WS := mws (tb3 148 rfl) rfl
theorem kl_X4_93 : Cond.methodLink RX4 93 yX4_may ∈ WS := mws (tb3 149 rfl) rfl
theorem ki_X4_may : Cond.instanceMethod yX4_may ∈ WS := mws (tb3 151 rfl) rfl
theorem kc_X4_may : Cond.code yX4_may cX4_may 3 (some .boolean) ∈ WS := mws (tb3 152 rfl) rfl
theorem kl_L_106 : Cond.methodLink RL 106 yX4_floor ∈ WS := mws (tb3 153 rfl) rfl
theorem ki_X4_floor : Cond.instanceMethod yX4_floor ∈ WS := mws (tb3 154 rfl) rfl
theorem kse_X4_floor : Cond.selects RX4 yX4_floor yX4_floor ∈ WS := mws (tb3 155 rfl) rfl
theorem kc_X4_floor : Cond.code yX4_floor cX4_floor 7 (some .long) ∈ WS := mws (tb3 156 rfl) rfl
theorem kcn_X4_96 : Cond.constantLong RX4 96 (1000000000000) ∈ WS := mws (tb3 157 rfl) rfl
theorem kl_L_127 : Cond.methodLink RL 127 yX4_sound ∈ WS := mws (tb3 158 rfl) rfl
theorem ki_X4_sound : Cond.instanceMethod yX4_sound ∈ WS := mws (tb3 159 rfl) rfl
theorem kse_X4_sound : Cond.selects RX4 yX4_sound yX4_sound ∈ WS := mws (tb3 160 rfl) rfl
theorem kc_X4_sound : Cond.code yX4_sound cX4_sound 1 (some .boolean) ∈ WS := mws (tb3 161 rfl) rfl
theorem kl_X4_111 : Cond.methodLink RX4 111 yX4_isSound ∈ WS := mws (tb3 162 rfl) rfl
theorem ki_X4_isSound : Cond.instanceMethod yX4_isSound ∈ WS := mws (tb3 164 rfl) rfl
theorem kc_X4_isSound : Cond.code yX4_isSound cX4_isSound 3 (some .boolean) ∈ WS := mws (tb3 165 rfl) rfl
theorem kl_X4_107 : Cond.methodLink RX4 107 yX4_logged ∈ WS := mws (tb3 166 rfl) rfl
theorem ki_X4_logged : Cond.instanceMethod yX4_logged ∈ WS := mws (tb3 168 rfl) rfl
theorem kc_X4_logged : Cond.code yX4_logged cX4_logged 9 (some .long) ∈ WS := mws (tb3 169 rfl) rfl
theorem kl_X4_100 : Cond.methodLink RX4 100 yX4_findPosts ∈ WS := mws (tb3 170 rfl) rfl
theorem ki_X4_findPosts : Cond.instanceMethod yX4_findPosts ∈ WS := mws (tb3 172 rfl) rfl
theorem kc_X4_findPosts : Cond.code yX4_findPosts cX4_findPosts 7 none ∈ WS := mws (tb3 173 rfl) rfl
theorem kcn_X4_98 : Cond.constantLong RX4 98 (100) ∈ WS := mws (tb3 174 rfl) rfl
theorem kl_L_109 : Cond.methodLink RL 109 yX4_ask ∈ WS := mws (tb3 175 rfl) rfl
theorem ki_X4_ask : Cond.instanceMethod yX4_ask ∈ WS := mws (tb3 176 rfl) rfl
theorem kse_X4_ask : Cond.selects RX4 yX4_ask yX4_ask ∈ WS := mws (tb3 177 rfl) rfl
theorem kc_X4_ask : Cond.code yX4_ask cX4_ask 6 (some .int) ∈ WS := mws (tb3 178 rfl) rfl
theorem kcn_X4_125 : Cond.constantLong RX4 125 (100000000000) ∈ WS := mws (tb3 179 rfl) rfl
theorem kcn_X4_127 : Cond.constantLong RX4 127 (10000) ∈ WS := mws (tb3 180 rfl) rfl
theorem kl_X4_129 : Cond.methodLink RX4 129 yX4_request ∈ WS := mws (tb3 181 rfl) rfl
theorem ki_X4_request : Cond.instanceMethod yX4_request ∈ WS := mws (tb3 183 rfl) rfl
theorem kc_X4_request : Cond.code yX4_request cX4_request 6 (some .int) ∈ WS := mws (tb3 184 rfl) rfl
theorem kl_X4_121 : Cond.methodLink RX4 121 yX4_freeRequest ∈ WS := mws (tb3 185 rfl) rfl
theorem ki_X4_freeRequest : Cond.instanceMethod yX4_freeRequest ∈ WS := mws (tb3 187 rfl) rfl
theorem kc_X4_freeRequest : Cond.code yX4_freeRequest cX4_freeRequest 3 (some .int) ∈ WS := mws (tb3 188 rfl) rfl
theorem kl_X4_133 : Cond.methodLink RX4 133 yX4_enter ∈ WS := mws (tb3 189 rfl) rfl
theorem ki_X4_enter : Cond.instanceMethod yX4_enter ∈ WS := mws (tb3 191 rfl) rfl
theorem kc_X4_enter : Cond.code yX4_enter cX4_enter 7 (some .int) ∈ WS := mws (tb3 192 rfl) rfl
theorem kcn_X4_115 : Cond.constantLong RX4 115 (-1) ∈ WS := mws (tb3 193 rfl) rfl
theorem kl_X4_117 : Cond.methodLink RX4 117 yX4_run ∈ WS := mws (tb3 194 rfl) rfl
theorem ki_X4_run : Cond.instanceMethod yX4_run ∈ WS := mws (tb3 196 rfl) rfl
theorem kc_X4_run : Cond.code yX4_run cX4_run 11 (some .boolean) ∈ WS := mws (tb3 197 rfl) rfl
theorem kl_L_112 : Cond.methodLink RL 112 yX4_approve ∈ WS := mws (tb3 198 rfl) rfl
theorem ki_X4_approve : Cond.instanceMethod yX4_approve ∈ WS := mws (tb3 199 rfl) rfl
theorem kse_X4_approve : Cond.selects RX4 yX4_approve yX4_approve ∈ WS := mws (tb3 200 rfl) rfl
theorem kc_X4_approve : Cond.code yX4_approve cX4_approve 4 (some .int) ∈ WS := mws (tb3 201 rfl) rfl
theorem kl_X4_137 : Cond.methodLink RX4 137 yX4_isRequest ∈ WS := mws (tb3 202 rfl) rfl
theorem ki_X4_isRequest : Cond.instanceMethod yX4_isRequest ∈ WS := mws (tb3 204 rfl) rfl
theorem kc_X4_isRequest : Cond.code yX4_isRequest cX4_isRequest 2 (some .boolean) ∈ WS := mws (tb3 205 rfl) rfl
theorem kl_X4_140 : Cond.methodLink RX4 140 yX4_mayApprove ∈ WS := mws (tb3 206 rfl) rfl
theorem ki_X4_mayApprove : Cond.instanceMethod yX4_mayApprove ∈ WS := mws (tb3 208 rfl) rfl
theorem kc_X4_mayApprove : Cond.code yX4_mayApprove cX4_mayApprove 3 (some .boolean) ∈ WS := mws (tb3 209 rfl) rfl
theorem kl_L_115 : Cond.methodLink RL 115 yX4_withdraw ∈ WS := mws (tb3 210 rfl) rfl
theorem ki_X4_withdraw : Cond.instanceMethod yX4_withdraw ∈ WS := mws (tb3 211 rfl) rfl
theorem kse_X4_withdraw : Cond.selects RX4 yX4_withdraw yX4_withdraw ∈ WS := mws (tb3 212 rfl) rfl
theorem kc_X4_withdraw : Cond.code yX4_withdraw cX4_withdraw 3 none ∈ WS := mws (tb3 213 rfl) rfl
theorem kl_L_118 : Cond.methodLink RL 118 yX4_reverse ∈ WS := mws (tb3 214 rfl) rfl
theorem ki_X4_reverse : Cond.instanceMethod yX4_reverse ∈ WS := mws (tb3 215 rfl) rfl
theorem kse_X4_reverse : Cond.selects RX4 yX4_reverse yX4_reverse ∈ WS := mws (tb3 216 rfl) rfl
theorem kc_X4_reverse : Cond.code yX4_reverse cX4_reverse 4 (some .int) ∈ WS := mws (tb3 217 rfl) rfl
theorem kl_X4_143 : Cond.methodLink RX4 143 yX4_isEntry ∈ WS := mws (tb3 218 rfl) rfl
theorem ki_X4_isEntry : Cond.instanceMethod yX4_isEntry ∈ WS := mws (tb3 220 rfl) rfl
theorem kc_X4_isEntry : Cond.code yX4_isEntry cX4_isEntry 2 (some .boolean) ∈ WS := mws (tb3 221 rfl) rfl
theorem kl_L_122 : Cond.methodLink RL 122 yX4_tamper ∈ WS := mws (tb3 222 rfl) rfl
theorem ki_X4_tamper : Cond.instanceMethod yX4_tamper ∈ WS := mws (tb3 223 rfl) rfl
theorem kse_X4_tamper : Cond.selects RX4 yX4_tamper yX4_tamper ∈ WS := mws (tb3 224 rfl) rfl
theorem kc_X4_tamper : Cond.code yX4_tamper cX4_tamper 4 (some .long) ∈ WS := mws (tb3 225 rfl) rfl
theorem kcn_X4_146 : Cond.constantLong RX4 146 (-1000000) ∈ WS := mws (tb3 226 rfl) rfl
theorem kcn_X4_148 : Cond.constantLong RX4 148 (1000000) ∈ WS := mws (tb3 227 rfl) rfl
theorem kl_L_131 : Cond.methodLink RL 131 yX4_restore ∈ WS := mws (tb3 228 rfl) rfl
theorem ki_X4_restore : Cond.instanceMethod yX4_restore ∈ WS := mws (tb3 229 rfl) rfl
theorem kse_X4_restore : Cond.selects RX4 yX4_restore yX4_restore ∈ WS := mws (tb3 230 rfl) rfl
theorem kc_X4_restore : Cond.code yX4_restore cX4_restore 6 (some .int) ∈ WS := mws (tb3 231 rfl) rfl
theorem kl_L_134 : Cond.methodLink RL 134 yX4_balance ∈ WS := mws (tb3 232 rfl) rfl
theorem ki_X4_balance : Cond.instanceMethod yX4_balance ∈ WS := mws (tb3 233 rfl) rfl
theorem kse_X4_balance : Cond.selects RX4 yX4_balance yX4_balance ∈ WS := mws (tb3 234 rfl) rfl
theorem kc_X4_balance : Cond.code yX4_balance cX4_balance 2 (some .long) ∈ WS := mws (tb3 235 rfl) rfl
theorem kl_L_137 : Cond.methodLink RL 137 yX4_balanceAt ∈ WS := mws (tb3 236 rfl) rfl
theorem ki_X4_balanceAt : Cond.instanceMethod yX4_balanceAt ∈ WS := mws (tb3 237 rfl) rfl
theorem kse_X4_balanceAt : Cond.selects RX4 yX4_balanceAt yX4_balanceAt ∈ WS := mws (tb3 238 rfl) rfl
theorem kc_X4_balanceAt : Cond.code yX4_balanceAt cX4_balanceAt 3 (some .long) ∈ WS := mws (tb3 239 rfl) rfl
theorem kl_L_141 : Cond.methodLink RL 141 yX4_entries ∈ WS := mws (tb4 0 rfl) rfl
theorem ki_X4_entries : Cond.instanceMethod yX4_entries ∈ WS := mws (tb4 1 rfl) rfl
theorem kse_X4_entries : Cond.selects RX4 yX4_entries yX4_entries ∈ WS := mws (tb4 2 rfl) rfl
theorem kc_X4_entries : Cond.code yX4_entries cX4_entries 1 (some .int) ∈ WS := mws (tb4 3 rfl) rfl
theorem kl_L_144 : Cond.methodLink RL 144 yX4_entry ∈ WS := mws (tb4 4 rfl) rfl
theorem ki_X4_entry : Cond.instanceMethod yX4_entry ∈ WS := mws (tb4 5 rfl) rfl
theorem kse_X4_entry : Cond.selects RX4 yX4_entry yX4_entry ∈ WS := mws (tb4 6 rfl) rfl
theorem kc_X4_entry : Cond.code yX4_entry cX4_entry 3 (some .int) ∈ WS := mws (tb4 7 rfl) rfl
theorem kl_L_147 : Cond.methodLink RL 147 yX4_amount ∈ WS := mws (tb4 8 rfl) rfl
theorem ki_X4_amount : Cond.instanceMethod yX4_amount ∈ WS := mws (tb4 9 rfl) rfl
theorem kse_X4_amount : Cond.selects RX4 yX4_amount yX4_amount ∈ WS := mws (tb4 10 rfl) rfl
theorem kc_X4_amount : Cond.code yX4_amount cX4_amount 2 (some .long) ∈ WS := mws (tb4 11 rfl) rfl
theorem kl_L_150 : Cond.methodLink RL 150 yX4_requested ∈ WS := mws (tb4 12 rfl) rfl
theorem ki_X4_requested : Cond.instanceMethod yX4_requested ∈ WS := mws (tb4 13 rfl) rfl
theorem kse_X4_requested : Cond.selects RX4 yX4_requested yX4_requested ∈ WS := mws (tb4 14 rfl) rfl
theorem kc_X4_requested : Cond.code yX4_requested cX4_requested 2 (some .int) ∈ WS := mws (tb4 15 rfl) rfl
theorem kcn_L_101 : Cond.constantLong RL 101 (4294967295) ∈ WS := mws (tb4 16 rfl) rfl
theorem kse_X3_countUnsoundBalances : Cond.selects RX3 yX3_countUnsoundBalances yX3_countUnsoundBalances ∈ WS := mws (tp1 (q := (yX3_countUnsoundBalances, 9)) 0 rfl) rfl
theorem kse_X3_isProcedure : Cond.selects RX3 yX3_isProcedure yX3_isProcedure ∈ WS := mws (tp1 (q := (yX3_isProcedure, 9)) 1 rfl) rfl
theorem kse_X1_isCertified : Cond.selects RX1 yX1_isCertified yX1_isCertified ∈ WS := mws (tp1 (q := (yX1_isCertified, 5)) 2 rfl) rfl
theorem kse_X1_appendLine : Cond.selects RX1 yX1_appendLine yX1_appendLine ∈ WS := mws (tp1 (q := (yX1_appendLine, 5)) 4 rfl) rfl
theorem kse_X3_requireProcedure : Cond.selects RX3 yX3_requireProcedure yX3_requireProcedure ∈ WS := mws (tp1 (q := (yX3_requireProcedure, 9)) 5 rfl) rfl
theorem kse_X1_hasLineFor : Cond.selects RX1 yX1_hasLineFor yX1_hasLineFor ∈ WS := mws (tp1 (q := (yX1_hasLineFor, 5)) 6 rfl) rfl
theorem kse_X1_shareSum : Cond.selects RX1 yX1_shareSum yX1_shareSum ∈ WS := mws (tp1 (q := (yX1_shareSum, 5)) 7 rfl) rfl
theorem kse_X3_requireMayRun : Cond.selects RX3 yX3_requireMayRun yX3_requireMayRun ∈ WS := mws (tp1 (q := (yX3_requireMayRun, 9)) 8 rfl) rfl
theorem kse_X3_requireBooksTakeRun : Cond.selects RX3 yX3_requireBooksTakeRun yX3_requireBooksTakeRun ∈ WS := mws (tp1 (q := (yX3_requireBooksTakeRun, 9)) 9 rfl) rfl
theorem kse_X3_fileRequest : Cond.selects RX3 yX3_fileRequest yX3_fileRequest ∈ WS := mws (tp1 (q := (yX3_fileRequest, 9)) 10 rfl) rfl
theorem kse_X2_isInUse : Cond.selects RX2 yX2_isInUse yX2_isInUse ∈ WS := mws (tp1 (q := (yX2_isInUse, 3)) 11 rfl) rfl
theorem kse_X2_fill : Cond.selects RX2 yX2_fill yX2_fill ∈ WS := mws (tp1 (q := (yX2_fill, 3)) 12 rfl) rfl
theorem kse_X3_runAndLog : Cond.selects RX3 yX3_runAndLog yX3_runAndLog ∈ WS := mws (tp1 (q := (yX3_runAndLog, 9)) 13 rfl) rfl
theorem kse_X1_computePostings : Cond.selects RX1 yX1_computePostings yX1_computePostings ∈ WS := mws (tp1 (q := (yX1_computePostings, 5)) 14 rfl) rfl
theorem kse_X3_negatePostings : Cond.selects RX3 yX3_negatePostings yX3_negatePostings ∈ WS := mws (tp1 (q := (yX3_negatePostings, 9)) 15 rfl) rfl
theorem kse_X3_requireNoLineFails : Cond.selects RX3 yX3_requireNoLineFails yX3_requireNoLineFails ∈ WS := mws (tp2 (q := (yX3_requireNoLineFails, 9)) 0 rfl) rfl
theorem kse_X0_fill : Cond.selects RX0 yX0_fill yX0_fill ∈ WS := mws (tp2 (q := (yX0_fill, 6)) 1 rfl) rfl
theorem kse_X3_requireRequest : Cond.selects RX3 yX3_requireRequest yX3_requireRequest ∈ WS := mws (tp2 (q := (yX3_requireRequest, 9)) 2 rfl) rfl
theorem kse_X3_mayApprove : Cond.selects RX3 yX3_mayApprove yX3_mayApprove ∈ WS := mws (tp2 (q := (yX3_mayApprove, 9)) 3 rfl) rfl
theorem kse_X2_clear : Cond.selects RX2 yX2_clear yX2_clear ∈ WS := mws (tp2 (q := (yX2_clear, 3)) 4 rfl) rfl
theorem kse_X3_requireEntry : Cond.selects RX3 yX3_requireEntry yX3_requireEntry ∈ WS := mws (tp2 (q := (yX3_requireEntry, 9)) 5 rfl) rfl
theorem kse_X4_isProcedure : Cond.selects RX4 yX4_isProcedure yX4_isProcedure ∈ WS := mws (tp2 (q := (yX4_isProcedure, 20)) 6 rfl) rfl
theorem kse_X4_hasLine : Cond.selects RX4 yX4_hasLine yX4_hasLine ∈ WS := mws (tp2 (q := (yX4_hasLine, 20)) 7 rfl) rfl
theorem kse_X4_allShares : Cond.selects RX4 yX4_allShares yX4_allShares ∈ WS := mws (tp2 (q := (yX4_allShares, 20)) 8 rfl) rfl
theorem kse_X4_may : Cond.selects RX4 yX4_may yX4_may ∈ WS := mws (tp2 (q := (yX4_may, 20)) 9 rfl) rfl
theorem kse_X4_isSound : Cond.selects RX4 yX4_isSound yX4_isSound ∈ WS := mws (tp2 (q := (yX4_isSound, 20)) 10 rfl) rfl
theorem kse_X4_logged : Cond.selects RX4 yX4_logged yX4_logged ∈ WS := mws (tp2 (q := (yX4_logged, 20)) 11 rfl) rfl
theorem kse_X4_findPosts : Cond.selects RX4 yX4_findPosts yX4_findPosts ∈ WS := mws (tp2 (q := (yX4_findPosts, 20)) 12 rfl) rfl
theorem kse_X4_request : Cond.selects RX4 yX4_request yX4_request ∈ WS := mws (tp2 (q := (yX4_request, 20)) 13 rfl) rfl
theorem kse_X4_freeRequest : Cond.selects RX4 yX4_freeRequest yX4_freeRequest ∈ WS := mws (tp2 (q := (yX4_freeRequest, 20)) 14 rfl) rfl
theorem kse_X4_enter : Cond.selects RX4 yX4_enter yX4_enter ∈ WS := mws (tp2 (q := (yX4_enter, 20)) 15 rfl) rfl
theorem kse_X4_run : Cond.selects RX4 yX4_run yX4_run ∈ WS := mws (tp3 (q := (yX4_run, 20)) 0 rfl) rfl
theorem kse_X4_isRequest : Cond.selects RX4 yX4_isRequest yX4_isRequest ∈ WS := mws (tp3 (q := (yX4_isRequest, 20)) 1 rfl) rfl
theorem kse_X4_mayApprove : Cond.selects RX4 yX4_mayApprove yX4_mayApprove ∈ WS := mws (tp3 (q := (yX4_mayApprove, 20)) 2 rfl) rfl
theorem kse_X4_isEntry : Cond.selects RX4 yX4_isEntry yX4_isEntry ∈ WS := mws (tp3 (q := (yX4_isEntry, 20)) 3 rfl) rfl
theorem inwX0 : ∀ w ∈ u_ws RX0 TX0 6, w ∈ WS := fun w h => mws (inX0_t w h) (List.all_eq_true.mp (show (u_ws RX0 TX0 6).all goodWord = true by decide +kernel) w h)
theorem inwX1 : ∀ w ∈ u_ws RX1 TX1 5, w ∈ WS := fun w h => mws (inX1_t w h) (List.all_eq_true.mp (show (u_ws RX1 TX1 5).all goodWord = true by decide +kernel) w h)
theorem inwX2 : ∀ w ∈ u_ws RX2 TX2 3, w ∈ WS := fun w h => mws (inX2_t w h) (List.all_eq_true.mp (show (u_ws RX2 TX2 3).all goodWord = true by decide +kernel) w h)
theorem inwX3 : ∀ w ∈ u_ws RX3 TX3 9, w ∈ WS := fun w h => mws (inX3_t w h) (List.all_eq_true.mp (show (u_ws RX3 TX3 9).all goodWord = true by decide +kernel) w h)
theorem inwX4 : ∀ w ∈ u_ws RX4 TX4 20, w ∈ WS := fun w h => mws (inX4_t w h) (List.all_eq_true.mp (show (u_ws RX4 TX4 20).all goodWord = true by decide +kernel) w h)
/-- the links between nest mates -/
def gNW : List Cond := [Cond.methodLinkNest RX3 51 yX1_init "CertifiedBooks", Cond.fieldLinkNest RX3 242 "CertifiedBooks$Procedure" "accounts" "[I" "CertifiedBooks", Cond.fieldLinkNest RX3 88 "CertifiedBooks$Procedure" "lineCount" "I" "CertifiedBooks", Cond.fieldLinkNest RX3 105 "CertifiedBooks$Procedure" "certifier" "I" "CertifiedBooks", Cond.fieldLinkNest RX3 113 "CertifiedBooks$Procedure" "grants" "[Z" "CertifiedBooks", Cond.methodLinkNest RX3 52 yX2_init "CertifiedBooks", Cond.fieldLinkNest RX3 152 "CertifiedBooks$Request" "asker" "I" "CertifiedBooks", Cond.fieldLinkNest RX3 155 "CertifiedBooks$Request" "procedure" "I" "CertifiedBooks", Cond.fieldLinkNest RX3 158 "CertifiedBooks$Request" "amount" "J" "CertifiedBooks", Cond.methodLinkNest RX3 53 yX0_init "CertifiedBooks", Cond.fieldLinkNest RX3 170 "CertifiedBooks$Entry" "procedure" "I" "CertifiedBooks", Cond.fieldLinkNest RX3 182 "CertifiedBooks$Entry" "amount" "J" "CertifiedBooks", Cond.fieldLinkNest RX3 171 "CertifiedBooks$Entry" "asker" "I" "CertifiedBooks", Cond.fieldLinkNest RX3 199 "CertifiedBooks$Entry" "approver" "I" "CertifiedBooks", Cond.fieldLinkNest RX3 174 "CertifiedBooks$Entry" "reversalOf" "I" "CertifiedBooks", Cond.fieldLinkNest RX3 177 "CertifiedBooks$Entry" "reversedBy" "I" "CertifiedBooks", Cond.methodLinkNest RX3 84 yX1_isCertified "CertifiedBooks", Cond.methodLinkNest RX3 68 yX1_appendLine "CertifiedBooks", Cond.methodLinkNest RX3 75 yX1_hasLineFor "CertifiedBooks", Cond.methodLinkNest RX3 99 yX1_shareSum "CertifiedBooks", Cond.methodLinkNest RX3 216 yX2_isInUse "CertifiedBooks", Cond.methodLinkNest RX3 219 yX2_fill "CertifiedBooks", Cond.methodLinkNest RX3 225 yX1_computePostings "CertifiedBooks", Cond.methodLinkNest RX3 246 yX0_fill "CertifiedBooks", Cond.methodLinkNest RX3 162 yX2_clear "CertifiedBooks"]
theorem kn_m51 : Cond.methodLinkNest RX3 51 yX1_init "CertifiedBooks" ∈ gNW := List.mem_of_getElem? (i := 0) rfl
theorem kn_f242 : Cond.fieldLinkNest RX3 242 "CertifiedBooks$Procedure" "accounts" "[I" "CertifiedBooks" ∈ gNW := List.mem_of_getElem? (i := 1) rfl
theorem kn_f88 : Cond.fieldLinkNest RX3 88 "CertifiedBooks$Procedure" "lineCount" "I" "CertifiedBooks" ∈ gNW := List.mem_of_getElem? (i := 2) rfl
theorem kn_f105 : Cond.fieldLinkNest RX3 105 "CertifiedBooks$Procedure" "certifier" "I" "CertifiedBooks" ∈ gNW := List.mem_of_getElem? (i := 3) rfl
theorem kn_f113 : Cond.fieldLinkNest RX3 113 "CertifiedBooks$Procedure" "grants" "[Z" "CertifiedBooks" ∈ gNW := List.mem_of_getElem? (i := 4) rfl
theorem kn_m52 : Cond.methodLinkNest RX3 52 yX2_init "CertifiedBooks" ∈ gNW := List.mem_of_getElem? (i := 5) rfl
theorem kn_f152 : Cond.fieldLinkNest RX3 152 "CertifiedBooks$Request" "asker" "I" "CertifiedBooks" ∈ gNW := List.mem_of_getElem? (i := 6) rfl
theorem kn_f155 : Cond.fieldLinkNest RX3 155 "CertifiedBooks$Request" "procedure" "I" "CertifiedBooks" ∈ gNW := List.mem_of_getElem? (i := 7) rfl
theorem kn_f158 : Cond.fieldLinkNest RX3 158 "CertifiedBooks$Request" "amount" "J" "CertifiedBooks" ∈ gNW := List.mem_of_getElem? (i := 8) rfl
theorem kn_m53 : Cond.methodLinkNest RX3 53 yX0_init "CertifiedBooks" ∈ gNW := List.mem_of_getElem? (i := 9) rfl
theorem kn_f170 : Cond.fieldLinkNest RX3 170 "CertifiedBooks$Entry" "procedure" "I" "CertifiedBooks" ∈ gNW := List.mem_of_getElem? (i := 10) rfl
theorem kn_f182 : Cond.fieldLinkNest RX3 182 "CertifiedBooks$Entry" "amount" "J" "CertifiedBooks" ∈ gNW := List.mem_of_getElem? (i := 11) rfl
theorem kn_f171 : Cond.fieldLinkNest RX3 171 "CertifiedBooks$Entry" "asker" "I" "CertifiedBooks" ∈ gNW := List.mem_of_getElem? (i := 12) rfl
theorem kn_f199 : Cond.fieldLinkNest RX3 199 "CertifiedBooks$Entry" "approver" "I" "CertifiedBooks" ∈ gNW := List.mem_of_getElem? (i := 13) rfl
theorem kn_f174 : Cond.fieldLinkNest RX3 174 "CertifiedBooks$Entry" "reversalOf" "I" "CertifiedBooks" ∈ gNW := List.mem_of_getElem? (i := 14) rfl
theorem kn_f177 : Cond.fieldLinkNest RX3 177 "CertifiedBooks$Entry" "reversedBy" "I" "CertifiedBooks" ∈ gNW := List.mem_of_getElem? (i := 15) rfl
theorem kn_m84 : Cond.methodLinkNest RX3 84 yX1_isCertified "CertifiedBooks" ∈ gNW := List.mem_of_getElem? (i := 16) rfl
theorem kn_m68 : Cond.methodLinkNest RX3 68 yX1_appendLine "CertifiedBooks" ∈ gNW := List.mem_of_getElem? (i := 17) rfl
theorem kn_m75 : Cond.methodLinkNest RX3 75 yX1_hasLineFor "CertifiedBooks" ∈ gNW := List.mem_of_getElem? (i := 18) rfl
theorem kn_m99 : Cond.methodLinkNest RX3 99 yX1_shareSum "CertifiedBooks" ∈ gNW := List.mem_of_getElem? (i := 19) rfl
theorem kn_m216 : Cond.methodLinkNest RX3 216 yX2_isInUse "CertifiedBooks" ∈ gNW := List.mem_of_getElem? (i := 20) rfl
theorem kn_m219 : Cond.methodLinkNest RX3 219 yX2_fill "CertifiedBooks" ∈ gNW := List.mem_of_getElem? (i := 21) rfl
theorem kn_m225 : Cond.methodLinkNest RX3 225 yX1_computePostings "CertifiedBooks" ∈ gNW := List.mem_of_getElem? (i := 22) rfl
theorem kn_m246 : Cond.methodLinkNest RX3 246 yX0_fill "CertifiedBooks" ∈ gNW := List.mem_of_getElem? (i := 23) rfl
theorem kn_m162 : Cond.methodLinkNest RX3 162 yX2_clear "CertifiedBooks" ∈ gNW := List.mem_of_getElem? (i := 24) rfl
theorem gNW_in : ∀ w ∈ gNW, w ∈ lw_tbl := List.forall_mem_cons.mpr ⟨tb1 32 rfl, List.forall_mem_cons.mpr ⟨tb1 37 rfl, List.forall_mem_cons.mpr ⟨tb1 40 rfl, List.forall_mem_cons.mpr ⟨tb1 42 rfl, List.forall_mem_cons.mpr ⟨tb1 44 rfl, List.forall_mem_cons.mpr ⟨tb1 60 rfl, List.forall_mem_cons.mpr ⟨tb1 65 rfl, List.forall_mem_cons.mpr ⟨tb1 67 rfl, List.forall_mem_cons.mpr ⟨tb1 69 rfl, List.forall_mem_cons.mpr ⟨tb1 78 rfl, List.forall_mem_cons.mpr ⟨tb1 83 rfl, List.forall_mem_cons.mpr ⟨tb1 85 rfl, List.forall_mem_cons.mpr ⟨tb1 87 rfl, List.forall_mem_cons.mpr ⟨tb1 89 rfl, List.forall_mem_cons.mpr ⟨tb1 91 rfl, List.forall_mem_cons.mpr ⟨tb1 93 rfl, List.forall_mem_cons.mpr ⟨tb1 158 rfl, List.forall_mem_cons.mpr ⟨tb2 39 rfl, List.forall_mem_cons.mpr ⟨tb2 55 rfl, List.forall_mem_cons.mpr ⟨tb2 92 rfl, List.forall_mem_cons.mpr ⟨tb2 143 rfl, List.forall_mem_cons.mpr ⟨tb2 147 rfl, List.forall_mem_cons.mpr ⟨tb2 156 rfl, List.forall_mem_cons.mpr ⟨tb2 173 rfl, List.forall_mem_cons.mpr ⟨tb2 194 rfl, fun _ h => absurd h List.not_mem_nil⟩⟩⟩⟩⟩⟩⟩⟩⟩⟩⟩⟩⟩⟩⟩⟩⟩⟩⟩⟩⟩⟩⟩⟩⟩
theorem gNW_warm {s U : State} (hW : s.WarmedH U.vm) : ∀ w ∈ gNW, va_Nw w s → va_Nw w U := List.forall_mem_cons.mpr ⟨fun h => va_Nw.warmM hW h, List.forall_mem_cons.mpr ⟨fun h => va_Nw.warmF hW h, List.forall_mem_cons.mpr ⟨fun h => va_Nw.warmF hW h, List.forall_mem_cons.mpr ⟨fun h => va_Nw.warmF hW h, List.forall_mem_cons.mpr ⟨fun h => va_Nw.warmF hW h, List.forall_mem_cons.mpr ⟨fun h => va_Nw.warmM hW h, List.forall_mem_cons.mpr ⟨fun h => va_Nw.warmF hW h, List.forall_mem_cons.mpr ⟨fun h => va_Nw.warmF hW h, List.forall_mem_cons.mpr ⟨fun h => va_Nw.warmF hW h, List.forall_mem_cons.mpr ⟨fun h => va_Nw.warmM hW h, List.forall_mem_cons.mpr ⟨fun h => va_Nw.warmF hW h, List.forall_mem_cons.mpr ⟨fun h => va_Nw.warmF hW h, List.forall_mem_cons.mpr ⟨fun h => va_Nw.warmF hW h, List.forall_mem_cons.mpr ⟨fun h => va_Nw.warmF hW h, List.forall_mem_cons.mpr ⟨fun h => va_Nw.warmF hW h, List.forall_mem_cons.mpr ⟨fun h => va_Nw.warmF hW h, List.forall_mem_cons.mpr ⟨fun h => va_Nw.warmM hW h, List.forall_mem_cons.mpr ⟨fun h => va_Nw.warmM hW h, List.forall_mem_cons.mpr ⟨fun h => va_Nw.warmM hW h, List.forall_mem_cons.mpr ⟨fun h => va_Nw.warmM hW h, List.forall_mem_cons.mpr ⟨fun h => va_Nw.warmM hW h, List.forall_mem_cons.mpr ⟨fun h => va_Nw.warmM hW h, List.forall_mem_cons.mpr ⟨fun h => va_Nw.warmM hW h, List.forall_mem_cons.mpr ⟨fun h => va_Nw.warmM hW h, List.forall_mem_cons.mpr ⟨fun h => va_Nw.warmM hW h, fun _ h => absurd h List.not_mem_nil⟩⟩⟩⟩⟩⟩⟩⟩⟩⟩⟩⟩⟩⟩⟩⟩⟩⟩⟩⟩⟩⟩⟩⟩⟩
/-- the texts of the exceptions -/
def gST : List (Nat × String) := [(265, "no such account"), (271, "no such share"), (63, "there are as many procedures as may be"), (259, "no such procedure"), (81, "a line has the account"), (91, "the procedure takes no more lines"), (267, "no such user"), (269, "the user is no officer"), (103, "the procedure can't be certified"), (110, "no officer grants to themselves"), (121, "no such floor"), (257, "the user may not run the procedure"), (128, "no such amount"), (253, "the books are not sound"), (255, "the log is full"), (223, "there are as many requests as may be"), (251, "the run fails"), (261, "no such request"), (150, "the user may not approve the request"), (165, "the user may not withdraw the request"), (263, "no such entry"), (172, "the user asked for the entry"), (180, "the entry is a reversal or reversed"), (187, "more than can be tampered with at once"), (189, "no such balance"), (196, "there are not so many entries"), (202, "an entry has nothing of that number"), (204, "no request has that number")]
theorem ks_265 : (265, "no such account") ∈ gST := List.mem_of_getElem? (i := 0) rfl
theorem ks_271 : (271, "no such share") ∈ gST := List.mem_of_getElem? (i := 1) rfl
theorem ks_63 : (63, "there are as many procedures as may be") ∈ gST := List.mem_of_getElem? (i := 2) rfl
theorem ks_259 : (259, "no such procedure") ∈ gST := List.mem_of_getElem? (i := 3) rfl
theorem ks_81 : (81, "a line has the account") ∈ gST := List.mem_of_getElem? (i := 4) rfl
theorem ks_91 : (91, "the procedure takes no more lines") ∈ gST := List.mem_of_getElem? (i := 5) rfl
theorem ks_267 : (267, "no such user") ∈ gST := List.mem_of_getElem? (i := 6) rfl
theorem ks_269 : (269, "the user is no officer") ∈ gST := List.mem_of_getElem? (i := 7) rfl
theorem ks_103 : (103, "the procedure can't be certified") ∈ gST := List.mem_of_getElem? (i := 8) rfl
theorem ks_110 : (110, "no officer grants to themselves") ∈ gST := List.mem_of_getElem? (i := 9) rfl
theorem ks_121 : (121, "no such floor") ∈ gST := List.mem_of_getElem? (i := 10) rfl
theorem ks_257 : (257, "the user may not run the procedure") ∈ gST := List.mem_of_getElem? (i := 11) rfl
theorem ks_128 : (128, "no such amount") ∈ gST := List.mem_of_getElem? (i := 12) rfl
theorem ks_253 : (253, "the books are not sound") ∈ gST := List.mem_of_getElem? (i := 13) rfl
theorem ks_255 : (255, "the log is full") ∈ gST := List.mem_of_getElem? (i := 14) rfl
theorem ks_223 : (223, "there are as many requests as may be") ∈ gST := List.mem_of_getElem? (i := 15) rfl
theorem ks_251 : (251, "the run fails") ∈ gST := List.mem_of_getElem? (i := 16) rfl
theorem ks_261 : (261, "no such request") ∈ gST := List.mem_of_getElem? (i := 17) rfl
theorem ks_150 : (150, "the user may not approve the request") ∈ gST := List.mem_of_getElem? (i := 18) rfl
theorem ks_165 : (165, "the user may not withdraw the request") ∈ gST := List.mem_of_getElem? (i := 19) rfl
theorem ks_263 : (263, "no such entry") ∈ gST := List.mem_of_getElem? (i := 20) rfl
theorem ks_172 : (172, "the user asked for the entry") ∈ gST := List.mem_of_getElem? (i := 21) rfl
theorem ks_180 : (180, "the entry is a reversal or reversed") ∈ gST := List.mem_of_getElem? (i := 22) rfl
theorem ks_187 : (187, "more than can be tampered with at once") ∈ gST := List.mem_of_getElem? (i := 23) rfl
theorem ks_189 : (189, "no such balance") ∈ gST := List.mem_of_getElem? (i := 24) rfl
theorem ks_196 : (196, "there are not so many entries") ∈ gST := List.mem_of_getElem? (i := 25) rfl
theorem ks_202 : (202, "an entry has nothing of that number") ∈ gST := List.mem_of_getElem? (i := 26) rfl
theorem ks_204 : (204, "no request has that number") ∈ gST := List.mem_of_getElem? (i := 27) rfl
theorem gST_in : ∀ q ∈ gST, Cond.stringRef RX3 q.1 q.2 ∈ lw_tbl := List.forall_mem_cons.mpr ⟨tb1 217 rfl, List.forall_mem_cons.mpr ⟨tb2 16 rfl, List.forall_mem_cons.mpr ⟨tb2 32 rfl, List.forall_mem_cons.mpr ⟨tb2 54 rfl, List.forall_mem_cons.mpr ⟨tb2 59 rfl, List.forall_mem_cons.mpr ⟨tb2 60 rfl, List.forall_mem_cons.mpr ⟨tb2 72 rfl, List.forall_mem_cons.mpr ⟨tb2 85 rfl, List.forall_mem_cons.mpr ⟨tb2 96 rfl, List.forall_mem_cons.mpr ⟨tb2 104 rfl, List.forall_mem_cons.mpr ⟨tb2 116 rfl, List.forall_mem_cons.mpr ⟨tb2 129 rfl, List.forall_mem_cons.mpr ⟨tb2 131 rfl, List.forall_mem_cons.mpr ⟨tb2 136 rfl, List.forall_mem_cons.mpr ⟨tb2 137 rfl, List.forall_mem_cons.mpr ⟨tb2 151 rfl, List.forall_mem_cons.mpr ⟨tb2 169 rfl, List.forall_mem_cons.mpr ⟨tb2 188 rfl, List.forall_mem_cons.mpr ⟨tb2 193 rfl, List.forall_mem_cons.mpr ⟨tb2 205 rfl, List.forall_mem_cons.mpr ⟨tb2 217 rfl, List.forall_mem_cons.mpr ⟨tb2 218 rfl, List.forall_mem_cons.mpr ⟨tb2 219 rfl, List.forall_mem_cons.mpr ⟨tb2 229 rfl, List.forall_mem_cons.mpr ⟨tb2 230 rfl, List.forall_mem_cons.mpr ⟨tb3 12 rfl, List.forall_mem_cons.mpr ⟨tb3 20 rfl, List.forall_mem_cons.mpr ⟨tb3 35 rfl, fun _ h => absurd h List.not_mem_nil⟩⟩⟩⟩⟩⟩⟩⟩⟩⟩⟩⟩⟩⟩⟩⟩⟩⟩⟩⟩⟩⟩⟩⟩⟩⟩⟩⟩
