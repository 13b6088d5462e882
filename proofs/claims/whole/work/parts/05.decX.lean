theorem dX0_init_0 : decode cX0_init 0 = .ok (.aload_n 0, 1) := by decide +kernel
theorem dX0_init_1 : decode cX0_init 1 = .ok (.invokespecial 3, 3) := by decide +kernel
theorem dX0_init_4 : decode cX0_init 4 = .ok (.aload_n 0, 1) := by decide +kernel
theorem dX0_init_5 : decode cX0_init 5 = .ok (.iconst (-1), 1) := by decide +kernel
theorem dX0_init_6 : decode cX0_init 6 = .ok (.putfield 9, 3) := by decide +kernel
theorem dX0_init_9 : decode cX0_init 9 = .ok (.aload_n 0, 1) := by decide +kernel
theorem dX0_init_10 : decode cX0_init 10 = .ok (.lconst 0, 1) := by decide +kernel
theorem dX0_init_11 : decode cX0_init 11 = .ok (.putfield 15, 3) := by decide +kernel
theorem dX0_init_14 : decode cX0_init 14 = .ok (.aload_n 0, 1) := by decide +kernel
theorem dX0_init_15 : decode cX0_init 15 = .ok (.iconst (-1), 1) := by decide +kernel
theorem dX0_init_16 : decode cX0_init 16 = .ok (.putfield 19, 3) := by decide +kernel
theorem dX0_init_19 : decode cX0_init 19 = .ok (.aload_n 0, 1) := by decide +kernel
theorem dX0_init_20 : decode cX0_init 20 = .ok (.iconst (-1), 1) := by decide +kernel
theorem dX0_init_21 : decode cX0_init 21 = .ok (.putfield 22, 3) := by decide +kernel
theorem dX0_init_24 : decode cX0_init 24 = .ok (.aload_n 0, 1) := by decide +kernel
theorem dX0_init_25 : decode cX0_init 25 = .ok (.iconst (-1), 1) := by decide +kernel
theorem dX0_init_26 : decode cX0_init 26 = .ok (.putfield 25, 3) := by decide +kernel
theorem dX0_init_29 : decode cX0_init 29 = .ok (.aload_n 0, 1) := by decide +kernel
theorem dX0_init_30 : decode cX0_init 30 = .ok (.iconst (-1), 1) := by decide +kernel
theorem dX0_init_31 : decode cX0_init 31 = .ok (.putfield 28, 3) := by decide +kernel
theorem dX0_init_34 : decode cX0_init 34 = .ok (.return_, 1) := by decide +kernel
theorem dX0_fill_0 : decode cX0_fill 0 = .ok (.aload_n 0, 1) := by decide +kernel
theorem dX0_fill_1 : decode cX0_fill 1 = .ok (.iload_n 1, 1) := by decide +kernel
theorem dX0_fill_2 : decode cX0_fill 2 = .ok (.putfield 9, 3) := by decide +kernel
theorem dX0_fill_5 : decode cX0_fill 5 = .ok (.aload_n 0, 1) := by decide +kernel
theorem dX0_fill_6 : decode cX0_fill 6 = .ok (.lload_n 2, 1) := by decide +kernel
theorem dX0_fill_7 : decode cX0_fill 7 = .ok (.putfield 15, 3) := by decide +kernel
theorem dX0_fill_10 : decode cX0_fill 10 = .ok (.aload_n 0, 1) := by decide +kernel
theorem dX0_fill_11 : decode cX0_fill 11 = .ok (.iload 4, 2) := by decide +kernel
theorem dX0_fill_13 : decode cX0_fill 13 = .ok (.putfield 19, 3) := by decide +kernel
theorem dX0_fill_16 : decode cX0_fill 16 = .ok (.aload_n 0, 1) := by decide +kernel
theorem dX0_fill_17 : decode cX0_fill 17 = .ok (.iload 5, 2) := by decide +kernel
theorem dX0_fill_19 : decode cX0_fill 19 = .ok (.putfield 22, 3) := by decide +kernel
theorem dX0_fill_22 : decode cX0_fill 22 = .ok (.aload_n 0, 1) := by decide +kernel
theorem dX0_fill_23 : decode cX0_fill 23 = .ok (.iload 6, 2) := by decide +kernel
theorem dX0_fill_25 : decode cX0_fill 25 = .ok (.putfield 25, 3) := by decide +kernel
theorem dX0_fill_28 : decode cX0_fill 28 = .ok (.return_, 1) := by decide +kernel
theorem dX1_init_0 : decode cX1_init 0 = .ok (.aload_n 0, 1) := by decide +kernel
theorem dX1_init_1 : decode cX1_init 1 = .ok (.invokespecial 3, 3) := by decide +kernel
theorem dX1_init_4 : decode cX1_init 4 = .ok (.aload_n 0, 1) := by decide +kernel
theorem dX1_init_5 : decode cX1_init 5 = .ok (.iconst 4, 1) := by decide +kernel
theorem dX1_init_6 : decode cX1_init 6 = .ok (.newarray .int, 2) := by decide +kernel
theorem dX1_init_8 : decode cX1_init 8 = .ok (.putfield 9, 3) := by decide +kernel
theorem dX1_init_11 : decode cX1_init 11 = .ok (.aload_n 0, 1) := by decide +kernel
theorem dX1_init_12 : decode cX1_init 12 = .ok (.iconst 4, 1) := by decide +kernel
theorem dX1_init_13 : decode cX1_init 13 = .ok (.newarray .int, 2) := by decide +kernel
theorem dX1_init_15 : decode cX1_init 15 = .ok (.putfield 15, 3) := by decide +kernel
theorem dX1_init_18 : decode cX1_init 18 = .ok (.aload_n 0, 1) := by decide +kernel
theorem dX1_init_19 : decode cX1_init 19 = .ok (.iconst 0, 1) := by decide +kernel
theorem dX1_init_20 : decode cX1_init 20 = .ok (.putfield 18, 3) := by decide +kernel
theorem dX1_init_23 : decode cX1_init 23 = .ok (.aload_n 0, 1) := by decide +kernel
theorem dX1_init_24 : decode cX1_init 24 = .ok (.iconst (-1), 1) := by decide +kernel
theorem dX1_init_25 : decode cX1_init 25 = .ok (.putfield 22, 3) := by decide +kernel
theorem dX1_init_28 : decode cX1_init 28 = .ok (.aload_n 0, 1) := by decide +kernel
theorem dX1_init_29 : decode cX1_init 29 = .ok (.bipush 8, 2) := by decide +kernel
theorem dX1_init_31 : decode cX1_init 31 = .ok (.newarray .boolean, 2) := by decide +kernel
theorem dX1_init_33 : decode cX1_init 33 = .ok (.putfield 25, 3) := by decide +kernel
theorem dX1_init_36 : decode cX1_init 36 = .ok (.return_, 1) := by decide +kernel
theorem dX1_isCertified_0 : decode cX1_isCertified 0 = .ok (.aload_n 0, 1) := by decide +kernel
theorem dX1_isCertified_1 : decode cX1_isCertified 1 = .ok (.getfield 22, 3) := by decide +kernel
theorem dX1_isCertified_4 : decode cX1_isCertified 4 = .ok (.iconst (-1), 1) := by decide +kernel
theorem dX1_isCertified_5 : decode cX1_isCertified 5 = .ok (.if_icmp .eq 7, 3) := by decide +kernel
theorem dX1_isCertified_8 : decode cX1_isCertified 8 = .ok (.iconst 1, 1) := by decide +kernel
theorem dX1_isCertified_9 : decode cX1_isCertified 9 = .ok (.goto 4, 3) := by decide +kernel
theorem dX1_isCertified_12 : decode cX1_isCertified 12 = .ok (.iconst 0, 1) := by decide +kernel
theorem dX1_isCertified_13 : decode cX1_isCertified 13 = .ok (.ireturn, 1) := by decide +kernel
theorem dX1_hasLineFor_0 : decode cX1_hasLineFor 0 = .ok (.iconst 0, 1) := by decide +kernel
theorem dX1_hasLineFor_1 : decode cX1_hasLineFor 1 = .ok (.istore_n 2, 1) := by decide +kernel
theorem dX1_hasLineFor_2 : decode cX1_hasLineFor 2 = .ok (.iload_n 2, 1) := by decide +kernel
theorem dX1_hasLineFor_3 : decode cX1_hasLineFor 3 = .ok (.aload_n 0, 1) := by decide +kernel
theorem dX1_hasLineFor_4 : decode cX1_hasLineFor 4 = .ok (.getfield 18, 3) := by decide +kernel
theorem dX1_hasLineFor_7 : decode cX1_hasLineFor 7 = .ok (.if_icmp .ge 21, 3) := by decide +kernel
theorem dX1_hasLineFor_10 : decode cX1_hasLineFor 10 = .ok (.aload_n 0, 1) := by decide +kernel
theorem dX1_hasLineFor_11 : decode cX1_hasLineFor 11 = .ok (.getfield 9, 3) := by decide +kernel
theorem dX1_hasLineFor_14 : decode cX1_hasLineFor 14 = .ok (.iload_n 2, 1) := by decide +kernel
theorem dX1_hasLineFor_15 : decode cX1_hasLineFor 15 = .ok (.iaload, 1) := by decide +kernel
theorem dX1_hasLineFor_16 : decode cX1_hasLineFor 16 = .ok (.iload_n 1, 1) := by decide +kernel
theorem dX1_hasLineFor_17 : decode cX1_hasLineFor 17 = .ok (.if_icmp .ne 5, 3) := by decide +kernel
theorem dX1_hasLineFor_20 : decode cX1_hasLineFor 20 = .ok (.iconst 1, 1) := by decide +kernel
theorem dX1_hasLineFor_21 : decode cX1_hasLineFor 21 = .ok (.ireturn, 1) := by decide +kernel
theorem dX1_hasLineFor_22 : decode cX1_hasLineFor 22 = .ok (.iinc 2 1, 3) := by decide +kernel
theorem dX1_hasLineFor_25 : decode cX1_hasLineFor 25 = .ok (.goto (-23), 3) := by decide +kernel
theorem dX1_hasLineFor_28 : decode cX1_hasLineFor 28 = .ok (.iconst 0, 1) := by decide +kernel
theorem dX1_hasLineFor_29 : decode cX1_hasLineFor 29 = .ok (.ireturn, 1) := by decide +kernel
theorem dX1_appendLine_0 : decode cX1_appendLine 0 = .ok (.aload_n 0, 1) := by decide +kernel
theorem dX1_appendLine_1 : decode cX1_appendLine 1 = .ok (.getfield 9, 3) := by decide +kernel
theorem dX1_appendLine_4 : decode cX1_appendLine 4 = .ok (.aload_n 0, 1) := by decide +kernel
theorem dX1_appendLine_5 : decode cX1_appendLine 5 = .ok (.getfield 18, 3) := by decide +kernel
theorem dX1_appendLine_8 : decode cX1_appendLine 8 = .ok (.iload_n 1, 1) := by decide +kernel
theorem dX1_appendLine_9 : decode cX1_appendLine 9 = .ok (.iastore, 1) := by decide +kernel
theorem dX1_appendLine_10 : decode cX1_appendLine 10 = .ok (.aload_n 0, 1) := by decide +kernel
theorem dX1_appendLine_11 : decode cX1_appendLine 11 = .ok (.getfield 15, 3) := by decide +kernel
theorem dX1_appendLine_14 : decode cX1_appendLine 14 = .ok (.aload_n 0, 1) := by decide +kernel
theorem dX1_appendLine_15 : decode cX1_appendLine 15 = .ok (.getfield 18, 3) := by decide +kernel
theorem dX1_appendLine_18 : decode cX1_appendLine 18 = .ok (.iload_n 2, 1) := by decide +kernel
theorem dX1_appendLine_19 : decode cX1_appendLine 19 = .ok (.iastore, 1) := by decide +kernel
theorem dX1_appendLine_20 : decode cX1_appendLine 20 = .ok (.aload_n 0, 1) := by decide +kernel
theorem dX1_appendLine_21 : decode cX1_appendLine 21 = .ok (.dup, 1) := by decide +kernel
theorem dX1_appendLine_22 : decode cX1_appendLine 22 = .ok (.getfield 18, 3) := by decide +kernel
theorem dX1_appendLine_25 : decode cX1_appendLine 25 = .ok (.iconst 1, 1) := by decide +kernel
theorem dX1_appendLine_26 : decode cX1_appendLine 26 = .ok (.iadd, 1) := by decide +kernel
theorem dX1_appendLine_27 : decode cX1_appendLine 27 = .ok (.putfield 18, 3) := by decide +kernel
theorem dX1_appendLine_30 : decode cX1_appendLine 30 = .ok (.return_, 1) := by decide +kernel
theorem dX1_shareSum_0 : decode cX1_shareSum 0 = .ok (.iconst 0, 1) := by decide +kernel
theorem dX1_shareSum_1 : decode cX1_shareSum 1 = .ok (.istore_n 1, 1) := by decide +kernel
theorem dX1_shareSum_2 : decode cX1_shareSum 2 = .ok (.iconst 0, 1) := by decide +kernel
theorem dX1_shareSum_3 : decode cX1_shareSum 3 = .ok (.istore_n 2, 1) := by decide +kernel
theorem dX1_shareSum_4 : decode cX1_shareSum 4 = .ok (.iload_n 2, 1) := by decide +kernel
theorem dX1_shareSum_5 : decode cX1_shareSum 5 = .ok (.aload_n 0, 1) := by decide +kernel
theorem dX1_shareSum_6 : decode cX1_shareSum 6 = .ok (.getfield 18, 3) := by decide +kernel
theorem dX1_shareSum_9 : decode cX1_shareSum 9 = .ok (.if_icmp .ge 18, 3) := by decide +kernel
theorem dX1_shareSum_12 : decode cX1_shareSum 12 = .ok (.iload_n 1, 1) := by decide +kernel
theorem dX1_shareSum_13 : decode cX1_shareSum 13 = .ok (.aload_n 0, 1) := by decide +kernel
theorem dX1_shareSum_14 : decode cX1_shareSum 14 = .ok (.getfield 15, 3) := by decide +kernel
theorem dX1_shareSum_17 : decode cX1_shareSum 17 = .ok (.iload_n 2, 1) := by decide +kernel
theorem dX1_shareSum_18 : decode cX1_shareSum 18 = .ok (.iaload, 1) := by decide +kernel
theorem dX1_shareSum_19 : decode cX1_shareSum 19 = .ok (.iadd, 1) := by decide +kernel
theorem dX1_shareSum_20 : decode cX1_shareSum 20 = .ok (.istore_n 1, 1) := by decide +kernel
theorem dX1_shareSum_21 : decode cX1_shareSum 21 = .ok (.iinc 2 1, 3) := by decide +kernel
theorem dX1_shareSum_24 : decode cX1_shareSum 24 = .ok (.goto (-20), 3) := by decide +kernel
theorem dX1_shareSum_27 : decode cX1_shareSum 27 = .ok (.iload_n 1, 1) := by decide +kernel
theorem dX1_shareSum_28 : decode cX1_shareSum 28 = .ok (.ireturn, 1) := by decide +kernel
theorem dX1_computePostings_0 : decode cX1_computePostings 0 = .ok (.lconst 0, 1) := by decide +kernel
theorem dX1_computePostings_1 : decode cX1_computePostings 1 = .ok (.lstore 4, 2) := by decide +kernel
theorem dX1_computePostings_3 : decode cX1_computePostings 3 = .ok (.iconst 0, 1) := by decide +kernel
theorem dX1_computePostings_4 : decode cX1_computePostings 4 = .ok (.istore 6, 2) := by decide +kernel
theorem dX1_computePostings_6 : decode cX1_computePostings 6 = .ok (.iload 6, 2) := by decide +kernel
theorem dX1_computePostings_8 : decode cX1_computePostings 8 = .ok (.aload_n 0, 1) := by decide +kernel
theorem dX1_computePostings_9 : decode cX1_computePostings 9 = .ok (.getfield 18, 3) := by decide +kernel
theorem dX1_computePostings_12 : decode cX1_computePostings 12 = .ok (.iconst 1, 1) := by decide +kernel
theorem dX1_computePostings_13 : decode cX1_computePostings 13 = .ok (.isub, 1) := by decide +kernel
theorem dX1_computePostings_14 : decode cX1_computePostings 14 = .ok (.if_icmp .ge 36, 3) := by decide +kernel
theorem dX1_computePostings_17 : decode cX1_computePostings 17 = .ok (.aload_n 3, 1) := by decide +kernel
theorem dX1_computePostings_18 : decode cX1_computePostings 18 = .ok (.iload 6, 2) := by decide +kernel
theorem dX1_computePostings_20 : decode cX1_computePostings 20 = .ok (.lload_n 1, 1) := by decide +kernel
theorem dX1_computePostings_21 : decode cX1_computePostings 21 = .ok (.aload_n 0, 1) := by decide +kernel
theorem dX1_computePostings_22 : decode cX1_computePostings 22 = .ok (.getfield 15, 3) := by decide +kernel
theorem dX1_computePostings_25 : decode cX1_computePostings 25 = .ok (.iload 6, 2) := by decide +kernel
theorem dX1_computePostings_27 : decode cX1_computePostings 27 = .ok (.iaload, 1) := by decide +kernel
theorem dX1_computePostings_28 : decode cX1_computePostings 28 = .ok (.i2l, 1) := by decide +kernel
theorem dX1_computePostings_29 : decode cX1_computePostings 29 = .ok (.lmul, 1) := by decide +kernel
theorem dX1_computePostings_30 : decode cX1_computePostings 30 = .ok (.ldc2_w 29, 3) := by decide +kernel
theorem dX1_computePostings_33 : decode cX1_computePostings 33 = .ok (.ldiv, 1) := by decide +kernel
theorem dX1_computePostings_34 : decode cX1_computePostings 34 = .ok (.lastore, 1) := by decide +kernel
theorem dX1_computePostings_35 : decode cX1_computePostings 35 = .ok (.lload 4, 2) := by decide +kernel
theorem dX1_computePostings_37 : decode cX1_computePostings 37 = .ok (.aload_n 3, 1) := by decide +kernel
theorem dX1_computePostings_38 : decode cX1_computePostings 38 = .ok (.iload 6, 2) := by decide +kernel
theorem dX1_computePostings_40 : decode cX1_computePostings 40 = .ok (.laload, 1) := by decide +kernel
theorem dX1_computePostings_41 : decode cX1_computePostings 41 = .ok (.ladd, 1) := by decide +kernel
theorem dX1_computePostings_42 : decode cX1_computePostings 42 = .ok (.lstore 4, 2) := by decide +kernel
theorem dX1_computePostings_44 : decode cX1_computePostings 44 = .ok (.iinc 6 1, 3) := by decide +kernel
theorem dX1_computePostings_47 : decode cX1_computePostings 47 = .ok (.goto (-41), 3) := by decide +kernel
theorem dX1_computePostings_50 : decode cX1_computePostings 50 = .ok (.aload_n 3, 1) := by decide +kernel
theorem dX1_computePostings_51 : decode cX1_computePostings 51 = .ok (.aload_n 0, 1) := by decide +kernel
theorem dX1_computePostings_52 : decode cX1_computePostings 52 = .ok (.getfield 18, 3) := by decide +kernel
theorem dX1_computePostings_55 : decode cX1_computePostings 55 = .ok (.iconst 1, 1) := by decide +kernel
theorem dX1_computePostings_56 : decode cX1_computePostings 56 = .ok (.isub, 1) := by decide +kernel
theorem dX1_computePostings_57 : decode cX1_computePostings 57 = .ok (.lload 4, 2) := by decide +kernel
theorem dX1_computePostings_59 : decode cX1_computePostings 59 = .ok (.lneg, 1) := by decide +kernel
theorem dX1_computePostings_60 : decode cX1_computePostings 60 = .ok (.lastore, 1) := by decide +kernel
theorem dX1_computePostings_61 : decode cX1_computePostings 61 = .ok (.return_, 1) := by decide +kernel
theorem dX2_init_0 : decode cX2_init 0 = .ok (.aload_n 0, 1) := by decide +kernel
theorem dX2_init_1 : decode cX2_init 1 = .ok (.invokespecial 3, 3) := by decide +kernel
theorem dX2_init_4 : decode cX2_init 4 = .ok (.aload_n 0, 1) := by decide +kernel
theorem dX2_init_5 : decode cX2_init 5 = .ok (.iconst (-1), 1) := by decide +kernel
theorem dX2_init_6 : decode cX2_init 6 = .ok (.putfield 9, 3) := by decide +kernel
theorem dX2_init_9 : decode cX2_init 9 = .ok (.aload_n 0, 1) := by decide +kernel
theorem dX2_init_10 : decode cX2_init 10 = .ok (.iconst (-1), 1) := by decide +kernel
theorem dX2_init_11 : decode cX2_init 11 = .ok (.putfield 15, 3) := by decide +kernel
theorem dX2_init_14 : decode cX2_init 14 = .ok (.aload_n 0, 1) := by decide +kernel
theorem dX2_init_15 : decode cX2_init 15 = .ok (.lconst 0, 1) := by decide +kernel
theorem dX2_init_16 : decode cX2_init 16 = .ok (.putfield 18, 3) := by decide +kernel
theorem dX2_init_19 : decode cX2_init 19 = .ok (.return_, 1) := by decide +kernel
theorem dX2_isInUse_0 : decode cX2_isInUse 0 = .ok (.aload_n 0, 1) := by decide +kernel
theorem dX2_isInUse_1 : decode cX2_isInUse 1 = .ok (.getfield 9, 3) := by decide +kernel
theorem dX2_isInUse_4 : decode cX2_isInUse 4 = .ok (.iconst (-1), 1) := by decide +kernel
theorem dX2_isInUse_5 : decode cX2_isInUse 5 = .ok (.if_icmp .eq 7, 3) := by decide +kernel
theorem dX2_isInUse_8 : decode cX2_isInUse 8 = .ok (.iconst 1, 1) := by decide +kernel
theorem dX2_isInUse_9 : decode cX2_isInUse 9 = .ok (.goto 4, 3) := by decide +kernel
theorem dX2_isInUse_12 : decode cX2_isInUse 12 = .ok (.iconst 0, 1) := by decide +kernel
theorem dX2_isInUse_13 : decode cX2_isInUse 13 = .ok (.ireturn, 1) := by decide +kernel
theorem dX2_fill_0 : decode cX2_fill 0 = .ok (.aload_n 0, 1) := by decide +kernel
theorem dX2_fill_1 : decode cX2_fill 1 = .ok (.iload_n 1, 1) := by decide +kernel
theorem dX2_fill_2 : decode cX2_fill 2 = .ok (.putfield 9, 3) := by decide +kernel
theorem dX2_fill_5 : decode cX2_fill 5 = .ok (.aload_n 0, 1) := by decide +kernel
theorem dX2_fill_6 : decode cX2_fill 6 = .ok (.iload_n 2, 1) := by decide +kernel
theorem dX2_fill_7 : decode cX2_fill 7 = .ok (.putfield 15, 3) := by decide +kernel
theorem dX2_fill_10 : decode cX2_fill 10 = .ok (.aload_n 0, 1) := by decide +kernel
theorem dX2_fill_11 : decode cX2_fill 11 = .ok (.lload_n 3, 1) := by decide +kernel
theorem dX2_fill_12 : decode cX2_fill 12 = .ok (.putfield 18, 3) := by decide +kernel
theorem dX2_fill_15 : decode cX2_fill 15 = .ok (.return_, 1) := by decide +kernel
theorem dX2_clear_0 : decode cX2_clear 0 = .ok (.aload_n 0, 1) := by decide +kernel
theorem dX2_clear_1 : decode cX2_clear 1 = .ok (.iconst (-1), 1) := by decide +kernel
theorem dX2_clear_2 : decode cX2_clear 2 = .ok (.putfield 9, 3) := by decide +kernel
theorem dX2_clear_5 : decode cX2_clear 5 = .ok (.return_, 1) := by decide +kernel
theorem dX3_init_0 : decode cX3_init 0 = .ok (.aload_n 0, 1) := by decide +kernel
theorem dX3_init_1 : decode cX3_init 1 = .ok (.invokespecial 1, 3) := by decide +kernel
theorem dX3_init_4 : decode cX3_init 4 = .ok (.aload_n 0, 1) := by decide +kernel
theorem dX3_init_5 : decode cX3_init 5 = .ok (.bipush 8, 2) := by decide +kernel
theorem dX3_init_7 : decode cX3_init 7 = .ok (.newarray .long, 2) := by decide +kernel
theorem dX3_init_9 : decode cX3_init 9 = .ok (.putfield 9, 3) := by decide +kernel
theorem dX3_init_12 : decode cX3_init 12 = .ok (.aload_n 0, 1) := by decide +kernel
theorem dX3_init_13 : decode cX3_init 13 = .ok (.bipush 8, 2) := by decide +kernel
theorem dX3_init_15 : decode cX3_init 15 = .ok (.newarray .long, 2) := by decide +kernel
theorem dX3_init_17 : decode cX3_init 17 = .ok (.putfield 13, 3) := by decide +kernel
theorem dX3_init_20 : decode cX3_init 20 = .ok (.aload_n 0, 1) := by decide +kernel
theorem dX3_init_21 : decode cX3_init 21 = .ok (.bipush 10, 2) := by decide +kernel
theorem dX3_init_23 : decode cX3_init 23 = .ok (.anewarray 16, 3) := by decide +kernel
theorem dX3_init_26 : decode cX3_init 26 = .ok (.putfield 18, 3) := by decide +kernel
theorem dX3_init_29 : decode cX3_init 29 = .ok (.aload_n 0, 1) := by decide +kernel
theorem dX3_init_30 : decode cX3_init 30 = .ok (.iconst 0, 1) := by decide +kernel
theorem dX3_init_31 : decode cX3_init 31 = .ok (.putfield 22, 3) := by decide +kernel
theorem dX3_init_34 : decode cX3_init 34 = .ok (.aload_n 0, 1) := by decide +kernel
theorem dX3_init_35 : decode cX3_init 35 = .ok (.bipush 6, 2) := by decide +kernel
theorem dX3_init_37 : decode cX3_init 37 = .ok (.anewarray 26, 3) := by decide +kernel
theorem dX3_init_40 : decode cX3_init 40 = .ok (.putfield 28, 3) := by decide +kernel
theorem dX3_init_43 : decode cX3_init 43 = .ok (.aload_n 0, 1) := by decide +kernel
theorem dX3_init_44 : decode cX3_init 44 = .ok (.bipush 40, 2) := by decide +kernel
theorem dX3_init_46 : decode cX3_init 46 = .ok (.anewarray 32, 3) := by decide +kernel
theorem dX3_init_49 : decode cX3_init 49 = .ok (.putfield 34, 3) := by decide +kernel
theorem dX3_init_52 : decode cX3_init 52 = .ok (.aload_n 0, 1) := by decide +kernel
theorem dX3_init_53 : decode cX3_init 53 = .ok (.iconst 0, 1) := by decide +kernel
theorem dX3_init_54 : decode cX3_init 54 = .ok (.putfield 38, 3) := by decide +kernel
theorem dX3_init_57 : decode cX3_init 57 = .ok (.aload_n 0, 1) := by decide +kernel
theorem dX3_init_58 : decode cX3_init 58 = .ok (.bipush 41, 2) := by decide +kernel
theorem dX3_init_60 : decode cX3_init 60 = .ok (.bipush 8, 2) := by decide +kernel
theorem dX3_init_62 : decode cX3_init 62 = .ok (.multianewarray 41 2, 4) := by decide +kernel
theorem dX3_init_66 : decode cX3_init 66 = .ok (.putfield 43, 3) := by decide +kernel
theorem dX3_init_69 : decode cX3_init 69 = .ok (.aload_n 0, 1) := by decide +kernel
theorem dX3_init_70 : decode cX3_init 70 = .ok (.iconst 4, 1) := by decide +kernel
theorem dX3_init_71 : decode cX3_init 71 = .ok (.newarray .long, 2) := by decide +kernel
theorem dX3_init_73 : decode cX3_init 73 = .ok (.putfield 46, 3) := by decide +kernel
theorem dX3_init_76 : decode cX3_init 76 = .ok (.iconst 0, 1) := by decide +kernel
theorem dX3_init_77 : decode cX3_init 77 = .ok (.istore_n 1, 1) := by decide +kernel
theorem dX3_init_78 : decode cX3_init 78 = .ok (.iload_n 1, 1) := by decide +kernel
theorem dX3_init_79 : decode cX3_init 79 = .ok (.bipush 8, 2) := by decide +kernel
theorem dX3_init_81 : decode cX3_init 81 = .ok (.if_icmp .ge 18, 3) := by decide +kernel
theorem dX3_init_84 : decode cX3_init 84 = .ok (.aload_n 0, 1) := by decide +kernel
theorem dX3_init_85 : decode cX3_init 85 = .ok (.getfield 13, 3) := by decide +kernel
theorem dX3_init_88 : decode cX3_init 88 = .ok (.iload_n 1, 1) := by decide +kernel
theorem dX3_init_89 : decode cX3_init 89 = .ok (.ldc2_w 49, 3) := by decide +kernel
theorem dX3_init_92 : decode cX3_init 92 = .ok (.lastore, 1) := by decide +kernel
theorem dX3_init_93 : decode cX3_init 93 = .ok (.iinc 1 1, 3) := by decide +kernel
theorem dX3_init_96 : decode cX3_init 96 = .ok (.goto (-18), 3) := by decide +kernel
theorem dX3_init_99 : decode cX3_init 99 = .ok (.iconst 0, 1) := by decide +kernel
theorem dX3_init_100 : decode cX3_init 100 = .ok (.istore_n 1, 1) := by decide +kernel
theorem dX3_init_101 : decode cX3_init 101 = .ok (.iload_n 1, 1) := by decide +kernel
theorem dX3_init_102 : decode cX3_init 102 = .ok (.bipush 10, 2) := by decide +kernel
theorem dX3_init_104 : decode cX3_init 104 = .ok (.if_icmp .ge 22, 3) := by decide +kernel
theorem dX3_init_107 : decode cX3_init 107 = .ok (.aload_n 0, 1) := by decide +kernel
theorem dX3_init_108 : decode cX3_init 108 = .ok (.getfield 18, 3) := by decide +kernel
theorem dX3_init_111 : decode cX3_init 111 = .ok (.iload_n 1, 1) := by decide +kernel
theorem dX3_init_112 : decode cX3_init 112 = .ok (.new 16, 3) := by decide +kernel
theorem dX3_init_115 : decode cX3_init 115 = .ok (.dup, 1) := by decide +kernel
theorem dX3_init_116 : decode cX3_init 116 = .ok (.invokespecial 51, 3) := by decide +kernel
theorem dX3_init_119 : decode cX3_init 119 = .ok (.aastore, 1) := by decide +kernel
theorem dX3_init_120 : decode cX3_init 120 = .ok (.iinc 1 1, 3) := by decide +kernel
theorem dX3_init_123 : decode cX3_init 123 = .ok (.goto (-22), 3) := by decide +kernel
theorem dX3_init_126 : decode cX3_init 126 = .ok (.iconst 0, 1) := by decide +kernel
theorem dX3_init_127 : decode cX3_init 127 = .ok (.istore_n 1, 1) := by decide +kernel
theorem dX3_init_128 : decode cX3_init 128 = .ok (.iload_n 1, 1) := by decide +kernel
theorem dX3_init_129 : decode cX3_init 129 = .ok (.bipush 6, 2) := by decide +kernel
theorem dX3_init_131 : decode cX3_init 131 = .ok (.if_icmp .ge 22, 3) := by decide +kernel
theorem dX3_init_134 : decode cX3_init 134 = .ok (.aload_n 0, 1) := by decide +kernel
theorem dX3_init_135 : decode cX3_init 135 = .ok (.getfield 28, 3) := by decide +kernel
theorem dX3_init_138 : decode cX3_init 138 = .ok (.iload_n 1, 1) := by decide +kernel
theorem dX3_init_139 : decode cX3_init 139 = .ok (.new 26, 3) := by decide +kernel
theorem dX3_init_142 : decode cX3_init 142 = .ok (.dup, 1) := by decide +kernel
theorem dX3_init_143 : decode cX3_init 143 = .ok (.invokespecial 52, 3) := by decide +kernel
theorem dX3_init_146 : decode cX3_init 146 = .ok (.aastore, 1) := by decide +kernel
theorem dX3_init_147 : decode cX3_init 147 = .ok (.iinc 1 1, 3) := by decide +kernel
theorem dX3_init_150 : decode cX3_init 150 = .ok (.goto (-22), 3) := by decide +kernel
theorem dX3_init_153 : decode cX3_init 153 = .ok (.iconst 0, 1) := by decide +kernel
theorem dX3_init_154 : decode cX3_init 154 = .ok (.istore_n 1, 1) := by decide +kernel
theorem dX3_init_155 : decode cX3_init 155 = .ok (.iload_n 1, 1) := by decide +kernel
theorem dX3_init_156 : decode cX3_init 156 = .ok (.bipush 40, 2) := by decide +kernel
theorem dX3_init_158 : decode cX3_init 158 = .ok (.if_icmp .ge 22, 3) := by decide +kernel
theorem dX3_init_161 : decode cX3_init 161 = .ok (.aload_n 0, 1) := by decide +kernel
theorem dX3_init_162 : decode cX3_init 162 = .ok (.getfield 34, 3) := by decide +kernel
theorem dX3_init_165 : decode cX3_init 165 = .ok (.iload_n 1, 1) := by decide +kernel
theorem dX3_init_166 : decode cX3_init 166 = .ok (.new 32, 3) := by decide +kernel
theorem dX3_init_169 : decode cX3_init 169 = .ok (.dup, 1) := by decide +kernel
theorem dX3_init_170 : decode cX3_init 170 = .ok (.invokespecial 53, 3) := by decide +kernel
theorem dX3_init_173 : decode cX3_init 173 = .ok (.aastore, 1) := by decide +kernel
theorem dX3_init_174 : decode cX3_init 174 = .ok (.iinc 1 1, 3) := by decide +kernel
theorem dX3_init_177 : decode cX3_init 177 = .ok (.goto (-22), 3) := by decide +kernel
theorem dX3_init_180 : decode cX3_init 180 = .ok (.return_, 1) := by decide +kernel
theorem dX3_draw_0 : decode cX3_draw 0 = .ok (.iload_n 1, 1) := by decide +kernel
theorem dX3_draw_1 : decode cX3_draw 1 = .ok (.invokestatic 54, 3) := by decide +kernel
theorem dX3_draw_4 : decode cX3_draw 4 = .ok (.iload_n 2, 1) := by decide +kernel
theorem dX3_draw_5 : decode cX3_draw 5 = .ok (.invokestatic 58, 3) := by decide +kernel
theorem dX3_draw_8 : decode cX3_draw 8 = .ok (.aload_n 0, 1) := by decide +kernel
theorem dX3_draw_9 : decode cX3_draw 9 = .ok (.getfield 22, 3) := by decide +kernel
theorem dX3_draw_12 : decode cX3_draw 12 = .ok (.bipush 10, 2) := by decide +kernel
theorem dX3_draw_14 : decode cX3_draw 14 = .ok (.if_icmp .lt 13, 3) := by decide +kernel
theorem dX3_draw_17 : decode cX3_draw 17 = .ok (.new 61, 3) := by decide +kernel
theorem dX3_draw_20 : decode cX3_draw 20 = .ok (.dup, 1) := by decide +kernel
theorem dX3_draw_21 : decode cX3_draw 21 = .ok (.ldc 63, 2) := by decide +kernel
theorem dX3_draw_23 : decode cX3_draw 23 = .ok (.invokespecial 65, 3) := by decide +kernel
theorem dX3_draw_26 : decode cX3_draw 26 = .ok (.athrow, 1) := by decide +kernel
theorem dX3_draw_27 : decode cX3_draw 27 = .ok (.aload_n 0, 1) := by decide +kernel
theorem dX3_draw_28 : decode cX3_draw 28 = .ok (.getfield 22, 3) := by decide +kernel
theorem dX3_draw_31 : decode cX3_draw 31 = .ok (.istore_n 3, 1) := by decide +kernel
theorem dX3_draw_32 : decode cX3_draw 32 = .ok (.aload_n 0, 1) := by decide +kernel
theorem dX3_draw_33 : decode cX3_draw 33 = .ok (.getfield 18, 3) := by decide +kernel
theorem dX3_draw_36 : decode cX3_draw 36 = .ok (.iload_n 3, 1) := by decide +kernel
theorem dX3_draw_37 : decode cX3_draw 37 = .ok (.aaload, 1) := by decide +kernel
theorem dX3_draw_38 : decode cX3_draw 38 = .ok (.iload_n 1, 1) := by decide +kernel
theorem dX3_draw_39 : decode cX3_draw 39 = .ok (.iload_n 2, 1) := by decide +kernel
theorem dX3_draw_40 : decode cX3_draw 40 = .ok (.invokevirtual 68, 3) := by decide +kernel
theorem dX3_draw_43 : decode cX3_draw 43 = .ok (.aload_n 0, 1) := by decide +kernel
theorem dX3_draw_44 : decode cX3_draw 44 = .ok (.dup, 1) := by decide +kernel
theorem dX3_draw_45 : decode cX3_draw 45 = .ok (.getfield 22, 3) := by decide +kernel
theorem dX3_draw_48 : decode cX3_draw 48 = .ok (.iconst 1, 1) := by decide +kernel
theorem dX3_draw_49 : decode cX3_draw 49 = .ok (.iadd, 1) := by decide +kernel
theorem dX3_draw_50 : decode cX3_draw 50 = .ok (.putfield 22, 3) := by decide +kernel
theorem dX3_draw_53 : decode cX3_draw 53 = .ok (.iload_n 3, 1) := by decide +kernel
theorem dX3_draw_54 : decode cX3_draw 54 = .ok (.ireturn, 1) := by decide +kernel
theorem dX3_add_0 : decode cX3_add 0 = .ok (.aload_n 0, 1) := by decide +kernel
theorem dX3_add_1 : decode cX3_add 1 = .ok (.iload_n 1, 1) := by decide +kernel
theorem dX3_add_2 : decode cX3_add 2 = .ok (.invokevirtual 72, 3) := by decide +kernel
theorem dX3_add_5 : decode cX3_add 5 = .ok (.iload_n 2, 1) := by decide +kernel
theorem dX3_add_6 : decode cX3_add 6 = .ok (.invokestatic 54, 3) := by decide +kernel
theorem dX3_add_9 : decode cX3_add 9 = .ok (.iload_n 3, 1) := by decide +kernel
theorem dX3_add_10 : decode cX3_add 10 = .ok (.invokestatic 58, 3) := by decide +kernel
theorem dX3_add_13 : decode cX3_add 13 = .ok (.aload_n 0, 1) := by decide +kernel
theorem dX3_add_14 : decode cX3_add 14 = .ok (.getfield 18, 3) := by decide +kernel
theorem dX3_add_17 : decode cX3_add 17 = .ok (.iload_n 1, 1) := by decide +kernel
theorem dX3_add_18 : decode cX3_add 18 = .ok (.aaload, 1) := by decide +kernel
theorem dX3_add_19 : decode cX3_add 19 = .ok (.astore 4, 2) := by decide +kernel
theorem dX3_add_21 : decode cX3_add 21 = .ok (.aload 4, 2) := by decide +kernel
theorem dX3_add_23 : decode cX3_add 23 = .ok (.iload_n 2, 1) := by decide +kernel
theorem dX3_add_24 : decode cX3_add 24 = .ok (.invokevirtual 75, 3) := by decide +kernel
theorem dX3_add_27 : decode cX3_add 27 = .ok (.ifCond .eq 13, 3) := by decide +kernel
theorem dX3_add_30 : decode cX3_add 30 = .ok (.new 79, 3) := by decide +kernel
theorem dX3_add_33 : decode cX3_add 33 = .ok (.dup, 1) := by decide +kernel
theorem dX3_add_34 : decode cX3_add 34 = .ok (.ldc 81, 2) := by decide +kernel
theorem dX3_add_36 : decode cX3_add 36 = .ok (.invokespecial 83, 3) := by decide +kernel
theorem dX3_add_39 : decode cX3_add 39 = .ok (.athrow, 1) := by decide +kernel
theorem dX3_add_40 : decode cX3_add 40 = .ok (.aload 4, 2) := by decide +kernel
theorem dX3_add_42 : decode cX3_add 42 = .ok (.invokevirtual 84, 3) := by decide +kernel
theorem dX3_add_45 : decode cX3_add 45 = .ok (.ifCond .ne 12, 3) := by decide +kernel
theorem dX3_add_48 : decode cX3_add 48 = .ok (.aload 4, 2) := by decide +kernel
theorem dX3_add_50 : decode cX3_add 50 = .ok (.getfield 88, 3) := by decide +kernel
theorem dX3_add_53 : decode cX3_add 53 = .ok (.iconst 4, 1) := by decide +kernel
theorem dX3_add_54 : decode cX3_add 54 = .ok (.if_icmp .lt 13, 3) := by decide +kernel
theorem dX3_add_57 : decode cX3_add 57 = .ok (.new 61, 3) := by decide +kernel
theorem dX3_add_60 : decode cX3_add 60 = .ok (.dup, 1) := by decide +kernel
theorem dX3_add_61 : decode cX3_add 61 = .ok (.ldc 91, 2) := by decide +kernel
theorem dX3_add_63 : decode cX3_add 63 = .ok (.invokespecial 65, 3) := by decide +kernel
theorem dX3_add_66 : decode cX3_add 66 = .ok (.athrow, 1) := by decide +kernel
theorem dX3_add_67 : decode cX3_add 67 = .ok (.aload 4, 2) := by decide +kernel
theorem dX3_add_69 : decode cX3_add 69 = .ok (.iload_n 2, 1) := by decide +kernel
theorem dX3_add_70 : decode cX3_add 70 = .ok (.iload_n 3, 1) := by decide +kernel
theorem dX3_add_71 : decode cX3_add 71 = .ok (.invokevirtual 68, 3) := by decide +kernel
theorem dX3_add_74 : decode cX3_add 74 = .ok (.aload 4, 2) := by decide +kernel
theorem dX3_add_76 : decode cX3_add 76 = .ok (.getfield 88, 3) := by decide +kernel
theorem dX3_add_79 : decode cX3_add 79 = .ok (.ireturn, 1) := by decide +kernel
theorem dX3_certify_0 : decode cX3_certify 0 = .ok (.iload_n 1, 1) := by decide +kernel
theorem dX3_certify_1 : decode cX3_certify 1 = .ok (.invokestatic 93, 3) := by decide +kernel
theorem dX3_certify_4 : decode cX3_certify 4 = .ok (.aload_n 0, 1) := by decide +kernel
theorem dX3_certify_5 : decode cX3_certify 5 = .ok (.iload_n 2, 1) := by decide +kernel
theorem dX3_certify_6 : decode cX3_certify 6 = .ok (.invokevirtual 72, 3) := by decide +kernel
theorem dX3_certify_9 : decode cX3_certify 9 = .ok (.iload_n 1, 1) := by decide +kernel
theorem dX3_certify_10 : decode cX3_certify 10 = .ok (.invokestatic 96, 3) := by decide +kernel
theorem dX3_certify_13 : decode cX3_certify 13 = .ok (.aload_n 0, 1) := by decide +kernel
theorem dX3_certify_14 : decode cX3_certify 14 = .ok (.getfield 18, 3) := by decide +kernel
theorem dX3_certify_17 : decode cX3_certify 17 = .ok (.iload_n 2, 1) := by decide +kernel
theorem dX3_certify_18 : decode cX3_certify 18 = .ok (.aaload, 1) := by decide +kernel
theorem dX3_certify_19 : decode cX3_certify 19 = .ok (.astore_n 3, 1) := by decide +kernel
theorem dX3_certify_20 : decode cX3_certify 20 = .ok (.aload_n 3, 1) := by decide +kernel
theorem dX3_certify_21 : decode cX3_certify 21 = .ok (.invokevirtual 84, 3) := by decide +kernel
theorem dX3_certify_24 : decode cX3_certify 24 = .ok (.ifCond .ne 18, 3) := by decide +kernel
theorem dX3_certify_27 : decode cX3_certify 27 = .ok (.aload_n 3, 1) := by decide +kernel
theorem dX3_certify_28 : decode cX3_certify 28 = .ok (.getfield 88, 3) := by decide +kernel
theorem dX3_certify_31 : decode cX3_certify 31 = .ok (.iconst 2, 1) := by decide +kernel
theorem dX3_certify_32 : decode cX3_certify 32 = .ok (.if_icmp .lt 10, 3) := by decide +kernel
theorem dX3_certify_35 : decode cX3_certify 35 = .ok (.aload_n 3, 1) := by decide +kernel
theorem dX3_certify_36 : decode cX3_certify 36 = .ok (.invokevirtual 99, 3) := by decide +kernel
theorem dX3_certify_39 : decode cX3_certify 39 = .ok (.ifCond .eq 13, 3) := by decide +kernel
theorem dX3_certify_42 : decode cX3_certify 42 = .ok (.new 61, 3) := by decide +kernel
theorem dX3_certify_45 : decode cX3_certify 45 = .ok (.dup, 1) := by decide +kernel
theorem dX3_certify_46 : decode cX3_certify 46 = .ok (.ldc 103, 2) := by decide +kernel
theorem dX3_certify_48 : decode cX3_certify 48 = .ok (.invokespecial 65, 3) := by decide +kernel
theorem dX3_certify_51 : decode cX3_certify 51 = .ok (.athrow, 1) := by decide +kernel
theorem dX3_certify_52 : decode cX3_certify 52 = .ok (.aload_n 3, 1) := by decide +kernel
theorem dX3_certify_53 : decode cX3_certify 53 = .ok (.iload_n 1, 1) := by decide +kernel
theorem dX3_certify_54 : decode cX3_certify 54 = .ok (.putfield 105, 3) := by decide +kernel
theorem dX3_certify_57 : decode cX3_certify 57 = .ok (.return_, 1) := by decide +kernel
theorem dX3_grant_0 : decode cX3_grant 0 = .ok (.iload_n 1, 1) := by decide +kernel
theorem dX3_grant_1 : decode cX3_grant 1 = .ok (.invokestatic 93, 3) := by decide +kernel
theorem dX3_grant_4 : decode cX3_grant 4 = .ok (.iload_n 2, 1) := by decide +kernel
theorem dX3_grant_5 : decode cX3_grant 5 = .ok (.invokestatic 93, 3) := by decide +kernel
theorem dX3_grant_8 : decode cX3_grant 8 = .ok (.aload_n 0, 1) := by decide +kernel
theorem dX3_grant_9 : decode cX3_grant 9 = .ok (.iload_n 3, 1) := by decide +kernel
theorem dX3_grant_10 : decode cX3_grant 10 = .ok (.invokevirtual 72, 3) := by decide +kernel
theorem dX3_grant_13 : decode cX3_grant 13 = .ok (.iload_n 1, 1) := by decide +kernel
theorem dX3_grant_14 : decode cX3_grant 14 = .ok (.invokestatic 96, 3) := by decide +kernel
theorem dX3_grant_17 : decode cX3_grant 17 = .ok (.iload_n 1, 1) := by decide +kernel
theorem dX3_grant_18 : decode cX3_grant 18 = .ok (.iload_n 2, 1) := by decide +kernel
theorem dX3_grant_19 : decode cX3_grant 19 = .ok (.if_icmp .ne 13, 3) := by decide +kernel
theorem dX3_grant_22 : decode cX3_grant 22 = .ok (.new 108, 3) := by decide +kernel
theorem dX3_grant_25 : decode cX3_grant 25 = .ok (.dup, 1) := by decide +kernel
theorem dX3_grant_26 : decode cX3_grant 26 = .ok (.ldc 110, 2) := by decide +kernel
theorem dX3_grant_28 : decode cX3_grant 28 = .ok (.invokespecial 112, 3) := by decide +kernel
theorem dX3_grant_31 : decode cX3_grant 31 = .ok (.athrow, 1) := by decide +kernel
theorem dX3_grant_32 : decode cX3_grant 32 = .ok (.aload_n 0, 1) := by decide +kernel
theorem dX3_grant_33 : decode cX3_grant 33 = .ok (.getfield 18, 3) := by decide +kernel
theorem dX3_grant_36 : decode cX3_grant 36 = .ok (.iload_n 3, 1) := by decide +kernel
theorem dX3_grant_37 : decode cX3_grant 37 = .ok (.aaload, 1) := by decide +kernel
theorem dX3_grant_38 : decode cX3_grant 38 = .ok (.astore 5, 2) := by decide +kernel
theorem dX3_grant_40 : decode cX3_grant 40 = .ok (.aload 5, 2) := by decide +kernel
theorem dX3_grant_42 : decode cX3_grant 42 = .ok (.getfield 113, 3) := by decide +kernel
theorem dX3_grant_45 : decode cX3_grant 45 = .ok (.iload_n 2, 1) := by decide +kernel
theorem dX3_grant_46 : decode cX3_grant 46 = .ok (.baload, 1) := by decide +kernel
theorem dX3_grant_47 : decode cX3_grant 47 = .ok (.iload 4, 2) := by decide +kernel
theorem dX3_grant_49 : decode cX3_grant 49 = .ok (.if_icmp .eq 7, 3) := by decide +kernel
theorem dX3_grant_52 : decode cX3_grant 52 = .ok (.iconst 1, 1) := by decide +kernel
theorem dX3_grant_53 : decode cX3_grant 53 = .ok (.goto 4, 3) := by decide +kernel
theorem dX3_grant_56 : decode cX3_grant 56 = .ok (.iconst 0, 1) := by decide +kernel
theorem dX3_grant_57 : decode cX3_grant 57 = .ok (.istore 6, 2) := by decide +kernel
theorem dX3_grant_59 : decode cX3_grant 59 = .ok (.aload 5, 2) := by decide +kernel
theorem dX3_grant_61 : decode cX3_grant 61 = .ok (.getfield 113, 3) := by decide +kernel
theorem dX3_grant_64 : decode cX3_grant 64 = .ok (.iload_n 2, 1) := by decide +kernel
theorem dX3_grant_65 : decode cX3_grant 65 = .ok (.iload 4, 2) := by decide +kernel
theorem dX3_grant_67 : decode cX3_grant 67 = .ok (.bastore, 1) := by decide +kernel
theorem dX3_grant_68 : decode cX3_grant 68 = .ok (.iload 6, 2) := by decide +kernel
theorem dX3_grant_70 : decode cX3_grant 70 = .ok (.ireturn, 1) := by decide +kernel
theorem dX3_floor_0 : decode cX3_floor 0 = .ok (.iload_n 1, 1) := by decide +kernel
theorem dX3_floor_1 : decode cX3_floor 1 = .ok (.invokestatic 93, 3) := by decide +kernel
theorem dX3_floor_4 : decode cX3_floor 4 = .ok (.iload_n 2, 1) := by decide +kernel
theorem dX3_floor_5 : decode cX3_floor 5 = .ok (.invokestatic 54, 3) := by decide +kernel
theorem dX3_floor_8 : decode cX3_floor 8 = .ok (.iload_n 1, 1) := by decide +kernel
theorem dX3_floor_9 : decode cX3_floor 9 = .ok (.invokestatic 96, 3) := by decide +kernel
theorem dX3_floor_12 : decode cX3_floor 12 = .ok (.lload_n 3, 1) := by decide +kernel
theorem dX3_floor_13 : decode cX3_floor 13 = .ok (.invokestatic 117, 3) := by decide +kernel
theorem dX3_floor_16 : decode cX3_floor 16 = .ok (.ifCond .eq 13, 3) := by decide +kernel
theorem dX3_floor_19 : decode cX3_floor 19 = .ok (.new 79, 3) := by decide +kernel
theorem dX3_floor_22 : decode cX3_floor 22 = .ok (.dup, 1) := by decide +kernel
theorem dX3_floor_23 : decode cX3_floor 23 = .ok (.ldc 121, 2) := by decide +kernel
theorem dX3_floor_25 : decode cX3_floor 25 = .ok (.invokespecial 83, 3) := by decide +kernel
theorem dX3_floor_28 : decode cX3_floor 28 = .ok (.athrow, 1) := by decide +kernel
theorem dX3_floor_29 : decode cX3_floor 29 = .ok (.aload_n 0, 1) := by decide +kernel
theorem dX3_floor_30 : decode cX3_floor 30 = .ok (.getfield 13, 3) := by decide +kernel
theorem dX3_floor_33 : decode cX3_floor 33 = .ok (.iload_n 2, 1) := by decide +kernel
theorem dX3_floor_34 : decode cX3_floor 34 = .ok (.laload, 1) := by decide +kernel
theorem dX3_floor_35 : decode cX3_floor 35 = .ok (.lstore 5, 2) := by decide +kernel
theorem dX3_floor_37 : decode cX3_floor 37 = .ok (.aload_n 0, 1) := by decide +kernel
theorem dX3_floor_38 : decode cX3_floor 38 = .ok (.getfield 13, 3) := by decide +kernel
theorem dX3_floor_41 : decode cX3_floor 41 = .ok (.iload_n 2, 1) := by decide +kernel
theorem dX3_floor_42 : decode cX3_floor 42 = .ok (.lload_n 3, 1) := by decide +kernel
theorem dX3_floor_43 : decode cX3_floor 43 = .ok (.lastore, 1) := by decide +kernel
theorem dX3_floor_44 : decode cX3_floor 44 = .ok (.lload 5, 2) := by decide +kernel
theorem dX3_floor_46 : decode cX3_floor 46 = .ok (.lreturn, 1) := by decide +kernel
theorem dX3_ask_0 : decode cX3_ask 0 = .ok (.iload_n 1, 1) := by decide +kernel
theorem dX3_ask_1 : decode cX3_ask 1 = .ok (.invokestatic 93, 3) := by decide +kernel
theorem dX3_ask_4 : decode cX3_ask 4 = .ok (.aload_n 0, 1) := by decide +kernel
theorem dX3_ask_5 : decode cX3_ask 5 = .ok (.iload_n 2, 1) := by decide +kernel
theorem dX3_ask_6 : decode cX3_ask 6 = .ok (.invokevirtual 72, 3) := by decide +kernel
theorem dX3_ask_9 : decode cX3_ask 9 = .ok (.aload_n 0, 1) := by decide +kernel
theorem dX3_ask_10 : decode cX3_ask 10 = .ok (.iload_n 1, 1) := by decide +kernel
theorem dX3_ask_11 : decode cX3_ask 11 = .ok (.iload_n 2, 1) := by decide +kernel
theorem dX3_ask_12 : decode cX3_ask 12 = .ok (.invokevirtual 123, 3) := by decide +kernel
theorem dX3_ask_15 : decode cX3_ask 15 = .ok (.lload_n 3, 1) := by decide +kernel
theorem dX3_ask_16 : decode cX3_ask 16 = .ok (.lconst 1, 1) := by decide +kernel
theorem dX3_ask_17 : decode cX3_ask 17 = .ok (.lcmp, 1) := by decide +kernel
theorem dX3_ask_18 : decode cX3_ask 18 = .ok (.ifCond .lt 11, 3) := by decide +kernel
theorem dX3_ask_21 : decode cX3_ask 21 = .ok (.lload_n 3, 1) := by decide +kernel
theorem dX3_ask_22 : decode cX3_ask 22 = .ok (.ldc2_w 126, 3) := by decide +kernel
theorem dX3_ask_25 : decode cX3_ask 25 = .ok (.lcmp, 1) := by decide +kernel
theorem dX3_ask_26 : decode cX3_ask 26 = .ok (.ifCond .le 13, 3) := by decide +kernel
theorem dX3_ask_29 : decode cX3_ask 29 = .ok (.new 79, 3) := by decide +kernel
theorem dX3_ask_32 : decode cX3_ask 32 = .ok (.dup, 1) := by decide +kernel
theorem dX3_ask_33 : decode cX3_ask 33 = .ok (.ldc 128, 2) := by decide +kernel
theorem dX3_ask_35 : decode cX3_ask 35 = .ok (.invokespecial 83, 3) := by decide +kernel
theorem dX3_ask_38 : decode cX3_ask 38 = .ok (.athrow, 1) := by decide +kernel
theorem dX3_ask_39 : decode cX3_ask 39 = .ok (.aload_n 0, 1) := by decide +kernel
theorem dX3_ask_40 : decode cX3_ask 40 = .ok (.invokevirtual 130, 3) := by decide +kernel
theorem dX3_ask_43 : decode cX3_ask 43 = .ok (.lload_n 3, 1) := by decide +kernel
theorem dX3_ask_44 : decode cX3_ask 44 = .ok (.ldc2_w 133, 3) := by decide +kernel
theorem dX3_ask_47 : decode cX3_ask 47 = .ok (.lcmp, 1) := by decide +kernel
theorem dX3_ask_48 : decode cX3_ask 48 = .ok (.ifCond .le 14, 3) := by decide +kernel
theorem dX3_ask_51 : decode cX3_ask 51 = .ok (.bipush 100, 2) := by decide +kernel
theorem dX3_ask_53 : decode cX3_ask 53 = .ok (.aload_n 0, 1) := by decide +kernel
theorem dX3_ask_54 : decode cX3_ask 54 = .ok (.iload_n 1, 1) := by decide +kernel
theorem dX3_ask_55 : decode cX3_ask 55 = .ok (.iload_n 2, 1) := by decide +kernel
theorem dX3_ask_56 : decode cX3_ask 56 = .ok (.lload_n 3, 1) := by decide +kernel
theorem dX3_ask_57 : decode cX3_ask 57 = .ok (.invokevirtual 135, 3) := by decide +kernel
theorem dX3_ask_60 : decode cX3_ask 60 = .ok (.iadd, 1) := by decide +kernel
theorem dX3_ask_61 : decode cX3_ask 61 = .ok (.ireturn, 1) := by decide +kernel
theorem dX3_ask_62 : decode cX3_ask 62 = .ok (.aload_n 0, 1) := by decide +kernel
theorem dX3_ask_63 : decode cX3_ask 63 = .ok (.iload_n 2, 1) := by decide +kernel
theorem dX3_ask_64 : decode cX3_ask 64 = .ok (.lload_n 3, 1) := by decide +kernel
theorem dX3_ask_65 : decode cX3_ask 65 = .ok (.iload_n 1, 1) := by decide +kernel
theorem dX3_ask_66 : decode cX3_ask 66 = .ok (.iconst (-1), 1) := by decide +kernel
theorem dX3_ask_67 : decode cX3_ask 67 = .ok (.iconst (-1), 1) := by decide +kernel
theorem dX3_ask_68 : decode cX3_ask 68 = .ok (.invokevirtual 139, 3) := by decide +kernel
theorem dX3_ask_71 : decode cX3_ask 71 = .ok (.ireturn, 1) := by decide +kernel
theorem dX3_approve_0 : decode cX3_approve 0 = .ok (.iload_n 1, 1) := by decide +kernel
theorem dX3_approve_1 : decode cX3_approve 1 = .ok (.invokestatic 93, 3) := by decide +kernel
theorem dX3_approve_4 : decode cX3_approve 4 = .ok (.aload_n 0, 1) := by decide +kernel
theorem dX3_approve_5 : decode cX3_approve 5 = .ok (.iload_n 2, 1) := by decide +kernel
theorem dX3_approve_6 : decode cX3_approve 6 = .ok (.invokevirtual 143, 3) := by decide +kernel
theorem dX3_approve_9 : decode cX3_approve 9 = .ok (.aload_n 0, 1) := by decide +kernel
theorem dX3_approve_10 : decode cX3_approve 10 = .ok (.getfield 28, 3) := by decide +kernel
theorem dX3_approve_13 : decode cX3_approve 13 = .ok (.iload_n 2, 1) := by decide +kernel
theorem dX3_approve_14 : decode cX3_approve 14 = .ok (.aaload, 1) := by decide +kernel
theorem dX3_approve_15 : decode cX3_approve 15 = .ok (.astore_n 3, 1) := by decide +kernel
theorem dX3_approve_16 : decode cX3_approve 16 = .ok (.aload_n 0, 1) := by decide +kernel
theorem dX3_approve_17 : decode cX3_approve 17 = .ok (.iload_n 1, 1) := by decide +kernel
theorem dX3_approve_18 : decode cX3_approve 18 = .ok (.aload_n 3, 1) := by decide +kernel
theorem dX3_approve_19 : decode cX3_approve 19 = .ok (.invokevirtual 146, 3) := by decide +kernel
theorem dX3_approve_22 : decode cX3_approve 22 = .ok (.ifCond .ne 13, 3) := by decide +kernel
theorem dX3_approve_25 : decode cX3_approve 25 = .ok (.new 108, 3) := by decide +kernel
theorem dX3_approve_28 : decode cX3_approve 28 = .ok (.dup, 1) := by decide +kernel
theorem dX3_approve_29 : decode cX3_approve 29 = .ok (.ldc 150, 2) := by decide +kernel
theorem dX3_approve_31 : decode cX3_approve 31 = .ok (.invokespecial 112, 3) := by decide +kernel
theorem dX3_approve_34 : decode cX3_approve 34 = .ok (.athrow, 1) := by decide +kernel
theorem dX3_approve_35 : decode cX3_approve 35 = .ok (.aload_n 0, 1) := by decide +kernel
theorem dX3_approve_36 : decode cX3_approve 36 = .ok (.aload_n 3, 1) := by decide +kernel
theorem dX3_approve_37 : decode cX3_approve 37 = .ok (.getfield 152, 3) := by decide +kernel
theorem dX3_approve_40 : decode cX3_approve 40 = .ok (.aload_n 3, 1) := by decide +kernel
theorem dX3_approve_41 : decode cX3_approve 41 = .ok (.getfield 155, 3) := by decide +kernel
theorem dX3_approve_44 : decode cX3_approve 44 = .ok (.invokevirtual 123, 3) := by decide +kernel
theorem dX3_approve_47 : decode cX3_approve 47 = .ok (.aload_n 0, 1) := by decide +kernel
theorem dX3_approve_48 : decode cX3_approve 48 = .ok (.invokevirtual 130, 3) := by decide +kernel
theorem dX3_approve_51 : decode cX3_approve 51 = .ok (.aload_n 0, 1) := by decide +kernel
theorem dX3_approve_52 : decode cX3_approve 52 = .ok (.aload_n 3, 1) := by decide +kernel
theorem dX3_approve_53 : decode cX3_approve 53 = .ok (.getfield 155, 3) := by decide +kernel
theorem dX3_approve_56 : decode cX3_approve 56 = .ok (.aload_n 3, 1) := by decide +kernel
theorem dX3_approve_57 : decode cX3_approve 57 = .ok (.getfield 158, 3) := by decide +kernel
theorem dX3_approve_60 : decode cX3_approve 60 = .ok (.aload_n 3, 1) := by decide +kernel
theorem dX3_approve_61 : decode cX3_approve 61 = .ok (.getfield 152, 3) := by decide +kernel
theorem dX3_approve_64 : decode cX3_approve 64 = .ok (.iload_n 1, 1) := by decide +kernel
theorem dX3_approve_65 : decode cX3_approve 65 = .ok (.iconst (-1), 1) := by decide +kernel
theorem dX3_approve_66 : decode cX3_approve 66 = .ok (.invokevirtual 139, 3) := by decide +kernel
theorem dX3_approve_69 : decode cX3_approve 69 = .ok (.istore 4, 2) := by decide +kernel
theorem dX3_approve_71 : decode cX3_approve 71 = .ok (.aload_n 3, 1) := by decide +kernel
theorem dX3_approve_72 : decode cX3_approve 72 = .ok (.invokevirtual 162, 3) := by decide +kernel
theorem dX3_approve_75 : decode cX3_approve 75 = .ok (.iload 4, 2) := by decide +kernel
theorem dX3_approve_77 : decode cX3_approve 77 = .ok (.ireturn, 1) := by decide +kernel
theorem dX3_withdraw_0 : decode cX3_withdraw 0 = .ok (.iload_n 1, 1) := by decide +kernel
theorem dX3_withdraw_1 : decode cX3_withdraw 1 = .ok (.invokestatic 93, 3) := by decide +kernel
theorem dX3_withdraw_4 : decode cX3_withdraw 4 = .ok (.aload_n 0, 1) := by decide +kernel
theorem dX3_withdraw_5 : decode cX3_withdraw 5 = .ok (.iload_n 2, 1) := by decide +kernel
theorem dX3_withdraw_6 : decode cX3_withdraw 6 = .ok (.invokevirtual 143, 3) := by decide +kernel
theorem dX3_withdraw_9 : decode cX3_withdraw 9 = .ok (.aload_n 0, 1) := by decide +kernel
theorem dX3_withdraw_10 : decode cX3_withdraw 10 = .ok (.getfield 28, 3) := by decide +kernel
theorem dX3_withdraw_13 : decode cX3_withdraw 13 = .ok (.iload_n 2, 1) := by decide +kernel
theorem dX3_withdraw_14 : decode cX3_withdraw 14 = .ok (.aaload, 1) := by decide +kernel
theorem dX3_withdraw_15 : decode cX3_withdraw 15 = .ok (.astore_n 3, 1) := by decide +kernel
theorem dX3_withdraw_16 : decode cX3_withdraw 16 = .ok (.aload_n 3, 1) := by decide +kernel
theorem dX3_withdraw_17 : decode cX3_withdraw 17 = .ok (.getfield 152, 3) := by decide +kernel
theorem dX3_withdraw_20 : decode cX3_withdraw 20 = .ok (.iload_n 1, 1) := by decide +kernel
theorem dX3_withdraw_21 : decode cX3_withdraw 21 = .ok (.if_icmp .eq 22, 3) := by decide +kernel
theorem dX3_withdraw_24 : decode cX3_withdraw 24 = .ok (.aload_n 0, 1) := by decide +kernel
theorem dX3_withdraw_25 : decode cX3_withdraw 25 = .ok (.iload_n 1, 1) := by decide +kernel
theorem dX3_withdraw_26 : decode cX3_withdraw 26 = .ok (.aload_n 3, 1) := by decide +kernel
theorem dX3_withdraw_27 : decode cX3_withdraw 27 = .ok (.invokevirtual 146, 3) := by decide +kernel
theorem dX3_withdraw_30 : decode cX3_withdraw 30 = .ok (.ifCond .ne 13, 3) := by decide +kernel
theorem dX3_withdraw_33 : decode cX3_withdraw 33 = .ok (.new 108, 3) := by decide +kernel
theorem dX3_withdraw_36 : decode cX3_withdraw 36 = .ok (.dup, 1) := by decide +kernel
theorem dX3_withdraw_37 : decode cX3_withdraw 37 = .ok (.ldc 165, 2) := by decide +kernel
theorem dX3_withdraw_39 : decode cX3_withdraw 39 = .ok (.invokespecial 112, 3) := by decide +kernel
theorem dX3_withdraw_42 : decode cX3_withdraw 42 = .ok (.athrow, 1) := by decide +kernel
theorem dX3_withdraw_43 : decode cX3_withdraw 43 = .ok (.aload_n 3, 1) := by decide +kernel
theorem dX3_withdraw_44 : decode cX3_withdraw 44 = .ok (.invokevirtual 162, 3) := by decide +kernel
theorem dX3_withdraw_47 : decode cX3_withdraw 47 = .ok (.return_, 1) := by decide +kernel
theorem dX3_reverse_0 : decode cX3_reverse 0 = .ok (.iload_n 1, 1) := by decide +kernel
theorem dX3_reverse_1 : decode cX3_reverse 1 = .ok (.invokestatic 93, 3) := by decide +kernel
theorem dX3_reverse_4 : decode cX3_reverse 4 = .ok (.aload_n 0, 1) := by decide +kernel
theorem dX3_reverse_5 : decode cX3_reverse 5 = .ok (.iload_n 2, 1) := by decide +kernel
theorem dX3_reverse_6 : decode cX3_reverse 6 = .ok (.invokevirtual 167, 3) := by decide +kernel
theorem dX3_reverse_9 : decode cX3_reverse 9 = .ok (.aload_n 0, 1) := by decide +kernel
theorem dX3_reverse_10 : decode cX3_reverse 10 = .ok (.getfield 34, 3) := by decide +kernel
theorem dX3_reverse_13 : decode cX3_reverse 13 = .ok (.iload_n 2, 1) := by decide +kernel
theorem dX3_reverse_14 : decode cX3_reverse 14 = .ok (.aaload, 1) := by decide +kernel
theorem dX3_reverse_15 : decode cX3_reverse 15 = .ok (.astore_n 3, 1) := by decide +kernel
theorem dX3_reverse_16 : decode cX3_reverse 16 = .ok (.aload_n 0, 1) := by decide +kernel
theorem dX3_reverse_17 : decode cX3_reverse 17 = .ok (.iload_n 1, 1) := by decide +kernel
theorem dX3_reverse_18 : decode cX3_reverse 18 = .ok (.aload_n 3, 1) := by decide +kernel
theorem dX3_reverse_19 : decode cX3_reverse 19 = .ok (.getfield 170, 3) := by decide +kernel
theorem dX3_reverse_22 : decode cX3_reverse 22 = .ok (.invokevirtual 123, 3) := by decide +kernel
theorem dX3_reverse_25 : decode cX3_reverse 25 = .ok (.aload_n 3, 1) := by decide +kernel
theorem dX3_reverse_26 : decode cX3_reverse 26 = .ok (.getfield 171, 3) := by decide +kernel
theorem dX3_reverse_29 : decode cX3_reverse 29 = .ok (.iload_n 1, 1) := by decide +kernel
theorem dX3_reverse_30 : decode cX3_reverse 30 = .ok (.if_icmp .ne 13, 3) := by decide +kernel
theorem dX3_reverse_33 : decode cX3_reverse 33 = .ok (.new 108, 3) := by decide +kernel
theorem dX3_reverse_36 : decode cX3_reverse 36 = .ok (.dup, 1) := by decide +kernel
theorem dX3_reverse_37 : decode cX3_reverse 37 = .ok (.ldc 172, 2) := by decide +kernel
theorem dX3_reverse_39 : decode cX3_reverse 39 = .ok (.invokespecial 112, 3) := by decide +kernel
theorem dX3_reverse_42 : decode cX3_reverse 42 = .ok (.athrow, 1) := by decide +kernel
theorem dX3_reverse_43 : decode cX3_reverse 43 = .ok (.aload_n 3, 1) := by decide +kernel
theorem dX3_reverse_44 : decode cX3_reverse 44 = .ok (.getfield 174, 3) := by decide +kernel
theorem dX3_reverse_47 : decode cX3_reverse 47 = .ok (.iconst (-1), 1) := by decide +kernel
theorem dX3_reverse_48 : decode cX3_reverse 48 = .ok (.if_icmp .ne 11, 3) := by decide +kernel
theorem dX3_reverse_51 : decode cX3_reverse 51 = .ok (.aload_n 3, 1) := by decide +kernel
theorem dX3_reverse_52 : decode cX3_reverse 52 = .ok (.getfield 177, 3) := by decide +kernel
theorem dX3_reverse_55 : decode cX3_reverse 55 = .ok (.iconst (-1), 1) := by decide +kernel
theorem dX3_reverse_56 : decode cX3_reverse 56 = .ok (.if_icmp .eq 13, 3) := by decide +kernel
theorem dX3_reverse_59 : decode cX3_reverse 59 = .ok (.new 61, 3) := by decide +kernel
theorem dX3_reverse_62 : decode cX3_reverse 62 = .ok (.dup, 1) := by decide +kernel
theorem dX3_reverse_63 : decode cX3_reverse 63 = .ok (.ldc 180, 2) := by decide +kernel
theorem dX3_reverse_65 : decode cX3_reverse 65 = .ok (.invokespecial 65, 3) := by decide +kernel
theorem dX3_reverse_68 : decode cX3_reverse 68 = .ok (.athrow, 1) := by decide +kernel
theorem dX3_reverse_69 : decode cX3_reverse 69 = .ok (.aload_n 0, 1) := by decide +kernel
theorem dX3_reverse_70 : decode cX3_reverse 70 = .ok (.invokevirtual 130, 3) := by decide +kernel
theorem dX3_reverse_73 : decode cX3_reverse 73 = .ok (.aload_n 0, 1) := by decide +kernel
theorem dX3_reverse_74 : decode cX3_reverse 74 = .ok (.aload_n 3, 1) := by decide +kernel
theorem dX3_reverse_75 : decode cX3_reverse 75 = .ok (.getfield 170, 3) := by decide +kernel
theorem dX3_reverse_78 : decode cX3_reverse 78 = .ok (.aload_n 3, 1) := by decide +kernel
theorem dX3_reverse_79 : decode cX3_reverse 79 = .ok (.getfield 182, 3) := by decide +kernel
theorem dX3_reverse_82 : decode cX3_reverse 82 = .ok (.iload_n 1, 1) := by decide +kernel
theorem dX3_reverse_83 : decode cX3_reverse 83 = .ok (.iconst (-1), 1) := by decide +kernel
theorem dX3_reverse_84 : decode cX3_reverse 84 = .ok (.iload_n 2, 1) := by decide +kernel
theorem dX3_reverse_85 : decode cX3_reverse 85 = .ok (.invokevirtual 139, 3) := by decide +kernel
theorem dX3_reverse_88 : decode cX3_reverse 88 = .ok (.istore 4, 2) := by decide +kernel
theorem dX3_reverse_90 : decode cX3_reverse 90 = .ok (.aload_n 3, 1) := by decide +kernel
theorem dX3_reverse_91 : decode cX3_reverse 91 = .ok (.iload 4, 2) := by decide +kernel
theorem dX3_reverse_93 : decode cX3_reverse 93 = .ok (.putfield 177, 3) := by decide +kernel
theorem dX3_reverse_96 : decode cX3_reverse 96 = .ok (.iload 4, 2) := by decide +kernel
theorem dX3_reverse_98 : decode cX3_reverse 98 = .ok (.ireturn, 1) := by decide +kernel
theorem dX3_tamper_0 : decode cX3_tamper 0 = .ok (.iload_n 1, 1) := by decide +kernel
theorem dX3_tamper_1 : decode cX3_tamper 1 = .ok (.invokestatic 54, 3) := by decide +kernel
theorem dX3_tamper_4 : decode cX3_tamper 4 = .ok (.lload_n 2, 1) := by decide +kernel
theorem dX3_tamper_5 : decode cX3_tamper 5 = .ok (.ldc2_w 183, 3) := by decide +kernel
theorem dX3_tamper_8 : decode cX3_tamper 8 = .ok (.lcmp, 1) := by decide +kernel
theorem dX3_tamper_9 : decode cX3_tamper 9 = .ok (.ifCond .lt 11, 3) := by decide +kernel
theorem dX3_tamper_12 : decode cX3_tamper 12 = .ok (.lload_n 2, 1) := by decide +kernel
theorem dX3_tamper_13 : decode cX3_tamper 13 = .ok (.ldc2_w 185, 3) := by decide +kernel
theorem dX3_tamper_16 : decode cX3_tamper 16 = .ok (.lcmp, 1) := by decide +kernel
theorem dX3_tamper_17 : decode cX3_tamper 17 = .ok (.ifCond .le 13, 3) := by decide +kernel
theorem dX3_tamper_20 : decode cX3_tamper 20 = .ok (.new 79, 3) := by decide +kernel
theorem dX3_tamper_23 : decode cX3_tamper 23 = .ok (.dup, 1) := by decide +kernel
theorem dX3_tamper_24 : decode cX3_tamper 24 = .ok (.ldc 187, 2) := by decide +kernel
theorem dX3_tamper_26 : decode cX3_tamper 26 = .ok (.invokespecial 83, 3) := by decide +kernel
theorem dX3_tamper_29 : decode cX3_tamper 29 = .ok (.athrow, 1) := by decide +kernel
theorem dX3_tamper_30 : decode cX3_tamper 30 = .ok (.aload_n 0, 1) := by decide +kernel
theorem dX3_tamper_31 : decode cX3_tamper 31 = .ok (.getfield 9, 3) := by decide +kernel
theorem dX3_tamper_34 : decode cX3_tamper 34 = .ok (.iload_n 1, 1) := by decide +kernel
theorem dX3_tamper_35 : decode cX3_tamper 35 = .ok (.laload, 1) := by decide +kernel
theorem dX3_tamper_36 : decode cX3_tamper 36 = .ok (.lload_n 2, 1) := by decide +kernel
theorem dX3_tamper_37 : decode cX3_tamper 37 = .ok (.ladd, 1) := by decide +kernel
theorem dX3_tamper_38 : decode cX3_tamper 38 = .ok (.lstore 4, 2) := by decide +kernel
theorem dX3_tamper_40 : decode cX3_tamper 40 = .ok (.lload 4, 2) := by decide +kernel
theorem dX3_tamper_42 : decode cX3_tamper 42 = .ok (.invokestatic 117, 3) := by decide +kernel
theorem dX3_tamper_45 : decode cX3_tamper 45 = .ok (.ifCond .eq 13, 3) := by decide +kernel
theorem dX3_tamper_48 : decode cX3_tamper 48 = .ok (.new 61, 3) := by decide +kernel
theorem dX3_tamper_51 : decode cX3_tamper 51 = .ok (.dup, 1) := by decide +kernel
theorem dX3_tamper_52 : decode cX3_tamper 52 = .ok (.ldc 189, 2) := by decide +kernel
theorem dX3_tamper_54 : decode cX3_tamper 54 = .ok (.invokespecial 65, 3) := by decide +kernel
theorem dX3_tamper_57 : decode cX3_tamper 57 = .ok (.athrow, 1) := by decide +kernel
theorem dX3_tamper_58 : decode cX3_tamper 58 = .ok (.aload_n 0, 1) := by decide +kernel
theorem dX3_tamper_59 : decode cX3_tamper 59 = .ok (.getfield 9, 3) := by decide +kernel
theorem dX3_tamper_62 : decode cX3_tamper 62 = .ok (.iload_n 1, 1) := by decide +kernel
theorem dX3_tamper_63 : decode cX3_tamper 63 = .ok (.lload 4, 2) := by decide +kernel
theorem dX3_tamper_65 : decode cX3_tamper 65 = .ok (.lastore, 1) := by decide +kernel
theorem dX3_tamper_66 : decode cX3_tamper 66 = .ok (.lload 4, 2) := by decide +kernel
theorem dX3_tamper_68 : decode cX3_tamper 68 = .ok (.lreturn, 1) := by decide +kernel
theorem dX3_sound_0 : decode cX3_sound 0 = .ok (.aload_n 0, 1) := by decide +kernel
theorem dX3_sound_1 : decode cX3_sound 1 = .ok (.invokevirtual 191, 3) := by decide +kernel
theorem dX3_sound_4 : decode cX3_sound 4 = .ok (.ifCond .ne 7, 3) := by decide +kernel
theorem dX3_sound_7 : decode cX3_sound 7 = .ok (.iconst 1, 1) := by decide +kernel
theorem dX3_sound_8 : decode cX3_sound 8 = .ok (.goto 4, 3) := by decide +kernel
theorem dX3_sound_11 : decode cX3_sound 11 = .ok (.iconst 0, 1) := by decide +kernel
theorem dX3_sound_12 : decode cX3_sound 12 = .ok (.ireturn, 1) := by decide +kernel
theorem dX3_restore_0 : decode cX3_restore 0 = .ok (.iload_n 1, 1) := by decide +kernel
theorem dX3_restore_1 : decode cX3_restore 1 = .ok (.invokestatic 93, 3) := by decide +kernel
theorem dX3_restore_4 : decode cX3_restore 4 = .ok (.iload_n 1, 1) := by decide +kernel
theorem dX3_restore_5 : decode cX3_restore 5 = .ok (.invokestatic 96, 3) := by decide +kernel
theorem dX3_restore_8 : decode cX3_restore 8 = .ok (.aload_n 0, 1) := by decide +kernel
theorem dX3_restore_9 : decode cX3_restore 9 = .ok (.invokevirtual 191, 3) := by decide +kernel
theorem dX3_restore_12 : decode cX3_restore 12 = .ok (.istore_n 2, 1) := by decide +kernel
theorem dX3_restore_13 : decode cX3_restore 13 = .ok (.iconst 0, 1) := by decide +kernel
theorem dX3_restore_14 : decode cX3_restore 14 = .ok (.istore_n 3, 1) := by decide +kernel
theorem dX3_restore_15 : decode cX3_restore 15 = .ok (.iload_n 3, 1) := by decide +kernel
theorem dX3_restore_16 : decode cX3_restore 16 = .ok (.bipush 8, 2) := by decide +kernel
theorem dX3_restore_18 : decode cX3_restore 18 = .ok (.if_icmp .ge 26, 3) := by decide +kernel
theorem dX3_restore_21 : decode cX3_restore 21 = .ok (.aload_n 0, 1) := by decide +kernel
theorem dX3_restore_22 : decode cX3_restore 22 = .ok (.getfield 9, 3) := by decide +kernel
theorem dX3_restore_25 : decode cX3_restore 25 = .ok (.iload_n 3, 1) := by decide +kernel
theorem dX3_restore_26 : decode cX3_restore 26 = .ok (.aload_n 0, 1) := by decide +kernel
theorem dX3_restore_27 : decode cX3_restore 27 = .ok (.getfield 43, 3) := by decide +kernel
theorem dX3_restore_30 : decode cX3_restore 30 = .ok (.aload_n 0, 1) := by decide +kernel
theorem dX3_restore_31 : decode cX3_restore 31 = .ok (.getfield 38, 3) := by decide +kernel
theorem dX3_restore_34 : decode cX3_restore 34 = .ok (.aaload, 1) := by decide +kernel
theorem dX3_restore_35 : decode cX3_restore 35 = .ok (.iload_n 3, 1) := by decide +kernel
theorem dX3_restore_36 : decode cX3_restore 36 = .ok (.laload, 1) := by decide +kernel
theorem dX3_restore_37 : decode cX3_restore 37 = .ok (.lastore, 1) := by decide +kernel
theorem dX3_restore_38 : decode cX3_restore 38 = .ok (.iinc 3 1, 3) := by decide +kernel
theorem dX3_restore_41 : decode cX3_restore 41 = .ok (.goto (-26), 3) := by decide +kernel
theorem dX3_restore_44 : decode cX3_restore 44 = .ok (.iload_n 2, 1) := by decide +kernel
theorem dX3_restore_45 : decode cX3_restore 45 = .ok (.ireturn, 1) := by decide +kernel
theorem dX3_balance_0 : decode cX3_balance 0 = .ok (.iload_n 1, 1) := by decide +kernel
theorem dX3_balance_1 : decode cX3_balance 1 = .ok (.invokestatic 54, 3) := by decide +kernel
theorem dX3_balance_4 : decode cX3_balance 4 = .ok (.aload_n 0, 1) := by decide +kernel
theorem dX3_balance_5 : decode cX3_balance 5 = .ok (.getfield 9, 3) := by decide +kernel
theorem dX3_balance_8 : decode cX3_balance 8 = .ok (.iload_n 1, 1) := by decide +kernel
theorem dX3_balance_9 : decode cX3_balance 9 = .ok (.laload, 1) := by decide +kernel
theorem dX3_balance_10 : decode cX3_balance 10 = .ok (.lreturn, 1) := by decide +kernel
theorem dX3_balanceAt_0 : decode cX3_balanceAt 0 = .ok (.iload_n 1, 1) := by decide +kernel
theorem dX3_balanceAt_1 : decode cX3_balanceAt 1 = .ok (.invokestatic 54, 3) := by decide +kernel
theorem dX3_balanceAt_4 : decode cX3_balanceAt 4 = .ok (.iload_n 2, 1) := by decide +kernel
theorem dX3_balanceAt_5 : decode cX3_balanceAt 5 = .ok (.ifCond .lt 11, 3) := by decide +kernel
theorem dX3_balanceAt_8 : decode cX3_balanceAt 8 = .ok (.iload_n 2, 1) := by decide +kernel
theorem dX3_balanceAt_9 : decode cX3_balanceAt 9 = .ok (.aload_n 0, 1) := by decide +kernel
theorem dX3_balanceAt_10 : decode cX3_balanceAt 10 = .ok (.getfield 38, 3) := by decide +kernel
theorem dX3_balanceAt_13 : decode cX3_balanceAt 13 = .ok (.if_icmp .le 13, 3) := by decide +kernel
theorem dX3_balanceAt_16 : decode cX3_balanceAt 16 = .ok (.new 194, 3) := by decide +kernel
theorem dX3_balanceAt_19 : decode cX3_balanceAt 19 = .ok (.dup, 1) := by decide +kernel
theorem dX3_balanceAt_20 : decode cX3_balanceAt 20 = .ok (.ldc 196, 2) := by decide +kernel
theorem dX3_balanceAt_22 : decode cX3_balanceAt 22 = .ok (.invokespecial 198, 3) := by decide +kernel
theorem dX3_balanceAt_25 : decode cX3_balanceAt 25 = .ok (.athrow, 1) := by decide +kernel
theorem dX3_balanceAt_26 : decode cX3_balanceAt 26 = .ok (.aload_n 0, 1) := by decide +kernel
theorem dX3_balanceAt_27 : decode cX3_balanceAt 27 = .ok (.getfield 43, 3) := by decide +kernel
theorem dX3_balanceAt_30 : decode cX3_balanceAt 30 = .ok (.iload_n 2, 1) := by decide +kernel
theorem dX3_balanceAt_31 : decode cX3_balanceAt 31 = .ok (.aaload, 1) := by decide +kernel
theorem dX3_balanceAt_32 : decode cX3_balanceAt 32 = .ok (.iload_n 1, 1) := by decide +kernel
theorem dX3_balanceAt_33 : decode cX3_balanceAt 33 = .ok (.laload, 1) := by decide +kernel
theorem dX3_balanceAt_34 : decode cX3_balanceAt 34 = .ok (.lreturn, 1) := by decide +kernel
theorem dX3_entries_0 : decode cX3_entries 0 = .ok (.aload_n 0, 1) := by decide +kernel
theorem dX3_entries_1 : decode cX3_entries 1 = .ok (.getfield 38, 3) := by decide +kernel
theorem dX3_entries_4 : decode cX3_entries 4 = .ok (.ireturn, 1) := by decide +kernel
theorem dX3_entry_0 : decode cX3_entry 0 = .ok (.aload_n 0, 1) := by decide +kernel
theorem dX3_entry_1 : decode cX3_entry 1 = .ok (.iload_n 1, 1) := by decide +kernel
theorem dX3_entry_2 : decode cX3_entry 2 = .ok (.invokevirtual 167, 3) := by decide +kernel
theorem dX3_entry_5 : decode cX3_entry 5 = .ok (.aload_n 0, 1) := by decide +kernel
theorem dX3_entry_6 : decode cX3_entry 6 = .ok (.getfield 34, 3) := by decide +kernel
theorem dX3_entry_9 : decode cX3_entry 9 = .ok (.iload_n 1, 1) := by decide +kernel
theorem dX3_entry_10 : decode cX3_entry 10 = .ok (.aaload, 1) := by decide +kernel
theorem dX3_entry_11 : decode cX3_entry 11 = .ok (.astore_n 3, 1) := by decide +kernel
theorem dX3_entry_12 : decode cX3_entry 12 = .ok (.iload_n 2, 1) := by decide +kernel
theorem dX3_entry_13 : decode cX3_entry 13 = .ok (.tableswitch 60 0 4 #[35, 40, 45, 50, 55], 35) := by decide +kernel
theorem dX3_entry_48 : decode cX3_entry 48 = .ok (.aload_n 3, 1) := by decide +kernel
theorem dX3_entry_49 : decode cX3_entry 49 = .ok (.getfield 170, 3) := by decide +kernel
theorem dX3_entry_52 : decode cX3_entry 52 = .ok (.ireturn, 1) := by decide +kernel
theorem dX3_entry_53 : decode cX3_entry 53 = .ok (.aload_n 3, 1) := by decide +kernel
theorem dX3_entry_54 : decode cX3_entry 54 = .ok (.getfield 171, 3) := by decide +kernel
theorem dX3_entry_57 : decode cX3_entry 57 = .ok (.ireturn, 1) := by decide +kernel
theorem dX3_entry_58 : decode cX3_entry 58 = .ok (.aload_n 3, 1) := by decide +kernel
theorem dX3_entry_59 : decode cX3_entry 59 = .ok (.getfield 199, 3) := by decide +kernel
theorem dX3_entry_62 : decode cX3_entry 62 = .ok (.ireturn, 1) := by decide +kernel
theorem dX3_entry_63 : decode cX3_entry 63 = .ok (.aload_n 3, 1) := by decide +kernel
theorem dX3_entry_64 : decode cX3_entry 64 = .ok (.getfield 174, 3) := by decide +kernel
theorem dX3_entry_67 : decode cX3_entry 67 = .ok (.ireturn, 1) := by decide +kernel
theorem dX3_entry_68 : decode cX3_entry 68 = .ok (.aload_n 3, 1) := by decide +kernel
theorem dX3_entry_69 : decode cX3_entry 69 = .ok (.getfield 177, 3) := by decide +kernel
theorem dX3_entry_72 : decode cX3_entry 72 = .ok (.ireturn, 1) := by decide +kernel
theorem dX3_entry_73 : decode cX3_entry 73 = .ok (.new 194, 3) := by decide +kernel
theorem dX3_entry_76 : decode cX3_entry 76 = .ok (.dup, 1) := by decide +kernel
theorem dX3_entry_77 : decode cX3_entry 77 = .ok (.ldc 202, 2) := by decide +kernel
theorem dX3_entry_79 : decode cX3_entry 79 = .ok (.invokespecial 198, 3) := by decide +kernel
theorem dX3_entry_82 : decode cX3_entry 82 = .ok (.athrow, 1) := by decide +kernel
theorem dX3_amount_0 : decode cX3_amount 0 = .ok (.aload_n 0, 1) := by decide +kernel
theorem dX3_amount_1 : decode cX3_amount 1 = .ok (.iload_n 1, 1) := by decide +kernel
theorem dX3_amount_2 : decode cX3_amount 2 = .ok (.invokevirtual 167, 3) := by decide +kernel
theorem dX3_amount_5 : decode cX3_amount 5 = .ok (.aload_n 0, 1) := by decide +kernel
theorem dX3_amount_6 : decode cX3_amount 6 = .ok (.getfield 34, 3) := by decide +kernel
theorem dX3_amount_9 : decode cX3_amount 9 = .ok (.iload_n 1, 1) := by decide +kernel
theorem dX3_amount_10 : decode cX3_amount 10 = .ok (.aaload, 1) := by decide +kernel
theorem dX3_amount_11 : decode cX3_amount 11 = .ok (.getfield 182, 3) := by decide +kernel
theorem dX3_amount_14 : decode cX3_amount 14 = .ok (.lreturn, 1) := by decide +kernel
theorem dX3_requested_0 : decode cX3_requested 0 = .ok (.iload_n 1, 1) := by decide +kernel
theorem dX3_requested_1 : decode cX3_requested 1 = .ok (.ifCond .lt 9, 3) := by decide +kernel
theorem dX3_requested_4 : decode cX3_requested 4 = .ok (.iload_n 1, 1) := by decide +kernel
theorem dX3_requested_5 : decode cX3_requested 5 = .ok (.bipush 6, 2) := by decide +kernel
theorem dX3_requested_7 : decode cX3_requested 7 = .ok (.if_icmp .lt 13, 3) := by decide +kernel
theorem dX3_requested_10 : decode cX3_requested 10 = .ok (.new 194, 3) := by decide +kernel
theorem dX3_requested_13 : decode cX3_requested 13 = .ok (.dup, 1) := by decide +kernel
theorem dX3_requested_14 : decode cX3_requested 14 = .ok (.ldc 204, 2) := by decide +kernel
theorem dX3_requested_16 : decode cX3_requested 16 = .ok (.invokespecial 198, 3) := by decide +kernel
theorem dX3_requested_19 : decode cX3_requested 19 = .ok (.athrow, 1) := by decide +kernel
theorem dX3_requested_20 : decode cX3_requested 20 = .ok (.aload_n 0, 1) := by decide +kernel
theorem dX3_requested_21 : decode cX3_requested 21 = .ok (.getfield 28, 3) := by decide +kernel
theorem dX3_requested_24 : decode cX3_requested 24 = .ok (.iload_n 1, 1) := by decide +kernel
theorem dX3_requested_25 : decode cX3_requested 25 = .ok (.aaload, 1) := by decide +kernel
theorem dX3_requested_26 : decode cX3_requested 26 = .ok (.getfield 152, 3) := by decide +kernel
theorem dX3_requested_29 : decode cX3_requested 29 = .ok (.ireturn, 1) := by decide +kernel
theorem dX3_mayRun_0 : decode cX3_mayRun 0 = .ok (.iload_n 1, 1) := by decide +kernel
theorem dX3_mayRun_1 : decode cX3_mayRun 1 = .ok (.invokestatic 206, 3) := by decide +kernel
theorem dX3_mayRun_4 : decode cX3_mayRun 4 = .ok (.ifCond .eq 11, 3) := by decide +kernel
theorem dX3_mayRun_7 : decode cX3_mayRun 7 = .ok (.aload_n 0, 1) := by decide +kernel
theorem dX3_mayRun_8 : decode cX3_mayRun 8 = .ok (.iload_n 2, 1) := by decide +kernel
theorem dX3_mayRun_9 : decode cX3_mayRun 9 = .ok (.invokevirtual 209, 3) := by decide +kernel
theorem dX3_mayRun_12 : decode cX3_mayRun 12 = .ok (.ifCond .ne 5, 3) := by decide +kernel
theorem dX3_mayRun_15 : decode cX3_mayRun 15 = .ok (.iconst 0, 1) := by decide +kernel
theorem dX3_mayRun_16 : decode cX3_mayRun 16 = .ok (.ireturn, 1) := by decide +kernel
theorem dX3_mayRun_17 : decode cX3_mayRun 17 = .ok (.aload_n 0, 1) := by decide +kernel
theorem dX3_mayRun_18 : decode cX3_mayRun 18 = .ok (.getfield 18, 3) := by decide +kernel
theorem dX3_mayRun_21 : decode cX3_mayRun 21 = .ok (.iload_n 2, 1) := by decide +kernel
theorem dX3_mayRun_22 : decode cX3_mayRun 22 = .ok (.aaload, 1) := by decide +kernel
theorem dX3_mayRun_23 : decode cX3_mayRun 23 = .ok (.astore_n 3, 1) := by decide +kernel
theorem dX3_mayRun_24 : decode cX3_mayRun 24 = .ok (.aload_n 3, 1) := by decide +kernel
theorem dX3_mayRun_25 : decode cX3_mayRun 25 = .ok (.invokevirtual 84, 3) := by decide +kernel
theorem dX3_mayRun_28 : decode cX3_mayRun 28 = .ok (.ifCond .eq 24, 3) := by decide +kernel
theorem dX3_mayRun_31 : decode cX3_mayRun 31 = .ok (.aload_n 3, 1) := by decide +kernel
theorem dX3_mayRun_32 : decode cX3_mayRun 32 = .ok (.getfield 105, 3) := by decide +kernel
theorem dX3_mayRun_35 : decode cX3_mayRun 35 = .ok (.iload_n 1, 1) := by decide +kernel
theorem dX3_mayRun_36 : decode cX3_mayRun 36 = .ok (.if_icmp .eq 16, 3) := by decide +kernel
theorem dX3_mayRun_39 : decode cX3_mayRun 39 = .ok (.aload_n 3, 1) := by decide +kernel
theorem dX3_mayRun_40 : decode cX3_mayRun 40 = .ok (.getfield 113, 3) := by decide +kernel
theorem dX3_mayRun_43 : decode cX3_mayRun 43 = .ok (.iload_n 1, 1) := by decide +kernel
theorem dX3_mayRun_44 : decode cX3_mayRun 44 = .ok (.baload, 1) := by decide +kernel
theorem dX3_mayRun_45 : decode cX3_mayRun 45 = .ok (.ifCond .eq 7, 3) := by decide +kernel
theorem dX3_mayRun_48 : decode cX3_mayRun 48 = .ok (.iconst 1, 1) := by decide +kernel
theorem dX3_mayRun_49 : decode cX3_mayRun 49 = .ok (.goto 4, 3) := by decide +kernel
theorem dX3_mayRun_52 : decode cX3_mayRun 52 = .ok (.iconst 0, 1) := by decide +kernel
theorem dX3_mayRun_53 : decode cX3_mayRun 53 = .ok (.ireturn, 1) := by decide +kernel
theorem dX3_mayApprove_0 : decode cX3_mayApprove 0 = .ok (.aload_n 0, 1) := by decide +kernel
theorem dX3_mayApprove_1 : decode cX3_mayApprove 1 = .ok (.iload_n 1, 1) := by decide +kernel
theorem dX3_mayApprove_2 : decode cX3_mayApprove 2 = .ok (.aload_n 2, 1) := by decide +kernel
theorem dX3_mayApprove_3 : decode cX3_mayApprove 3 = .ok (.getfield 155, 3) := by decide +kernel
theorem dX3_mayApprove_6 : decode cX3_mayApprove 6 = .ok (.invokevirtual 212, 3) := by decide +kernel
theorem dX3_mayApprove_9 : decode cX3_mayApprove 9 = .ok (.ifCond .eq 15, 3) := by decide +kernel
theorem dX3_mayApprove_12 : decode cX3_mayApprove 12 = .ok (.aload_n 2, 1) := by decide +kernel
theorem dX3_mayApprove_13 : decode cX3_mayApprove 13 = .ok (.getfield 152, 3) := by decide +kernel
theorem dX3_mayApprove_16 : decode cX3_mayApprove 16 = .ok (.iload_n 1, 1) := by decide +kernel
theorem dX3_mayApprove_17 : decode cX3_mayApprove 17 = .ok (.if_icmp .eq 7, 3) := by decide +kernel
theorem dX3_mayApprove_20 : decode cX3_mayApprove 20 = .ok (.iconst 1, 1) := by decide +kernel
theorem dX3_mayApprove_21 : decode cX3_mayApprove 21 = .ok (.goto 4, 3) := by decide +kernel
theorem dX3_mayApprove_24 : decode cX3_mayApprove 24 = .ok (.iconst 0, 1) := by decide +kernel
theorem dX3_mayApprove_25 : decode cX3_mayApprove 25 = .ok (.ireturn, 1) := by decide +kernel
theorem dX3_fileRequest_0 : decode cX3_fileRequest 0 = .ok (.iconst 0, 1) := by decide +kernel
theorem dX3_fileRequest_1 : decode cX3_fileRequest 1 = .ok (.istore 5, 2) := by decide +kernel
theorem dX3_fileRequest_3 : decode cX3_fileRequest 3 = .ok (.iload 5, 2) := by decide +kernel
theorem dX3_fileRequest_5 : decode cX3_fileRequest 5 = .ok (.bipush 6, 2) := by decide +kernel
theorem dX3_fileRequest_7 : decode cX3_fileRequest 7 = .ok (.if_icmp .ge 38, 3) := by decide +kernel
theorem dX3_fileRequest_10 : decode cX3_fileRequest 10 = .ok (.aload_n 0, 1) := by decide +kernel
theorem dX3_fileRequest_11 : decode cX3_fileRequest 11 = .ok (.getfield 28, 3) := by decide +kernel
theorem dX3_fileRequest_14 : decode cX3_fileRequest 14 = .ok (.iload 5, 2) := by decide +kernel
theorem dX3_fileRequest_16 : decode cX3_fileRequest 16 = .ok (.aaload, 1) := by decide +kernel
theorem dX3_fileRequest_17 : decode cX3_fileRequest 17 = .ok (.invokevirtual 216, 3) := by decide +kernel
theorem dX3_fileRequest_20 : decode cX3_fileRequest 20 = .ok (.ifCond .ne 19, 3) := by decide +kernel
theorem dX3_fileRequest_23 : decode cX3_fileRequest 23 = .ok (.aload_n 0, 1) := by decide +kernel
theorem dX3_fileRequest_24 : decode cX3_fileRequest 24 = .ok (.getfield 28, 3) := by decide +kernel
theorem dX3_fileRequest_27 : decode cX3_fileRequest 27 = .ok (.iload 5, 2) := by decide +kernel
theorem dX3_fileRequest_29 : decode cX3_fileRequest 29 = .ok (.aaload, 1) := by decide +kernel
theorem dX3_fileRequest_30 : decode cX3_fileRequest 30 = .ok (.iload_n 1, 1) := by decide +kernel
theorem dX3_fileRequest_31 : decode cX3_fileRequest 31 = .ok (.iload_n 2, 1) := by decide +kernel
theorem dX3_fileRequest_32 : decode cX3_fileRequest 32 = .ok (.lload_n 3, 1) := by decide +kernel
theorem dX3_fileRequest_33 : decode cX3_fileRequest 33 = .ok (.invokevirtual 219, 3) := by decide +kernel
theorem dX3_fileRequest_36 : decode cX3_fileRequest 36 = .ok (.iload 5, 2) := by decide +kernel
theorem dX3_fileRequest_38 : decode cX3_fileRequest 38 = .ok (.ireturn, 1) := by decide +kernel
theorem dX3_fileRequest_39 : decode cX3_fileRequest 39 = .ok (.iinc 5 1, 3) := by decide +kernel
theorem dX3_fileRequest_42 : decode cX3_fileRequest 42 = .ok (.goto (-39), 3) := by decide +kernel
theorem dX3_fileRequest_45 : decode cX3_fileRequest 45 = .ok (.new 61, 3) := by decide +kernel
theorem dX3_fileRequest_48 : decode cX3_fileRequest 48 = .ok (.dup, 1) := by decide +kernel
theorem dX3_fileRequest_49 : decode cX3_fileRequest 49 = .ok (.ldc 223, 2) := by decide +kernel
theorem dX3_fileRequest_51 : decode cX3_fileRequest 51 = .ok (.invokespecial 65, 3) := by decide +kernel
theorem dX3_fileRequest_54 : decode cX3_fileRequest 54 = .ok (.athrow, 1) := by decide +kernel
theorem dX3_runAndLog_0 : decode cX3_runAndLog 0 = .ok (.aload_n 0, 1) := by decide +kernel
theorem dX3_runAndLog_1 : decode cX3_runAndLog 1 = .ok (.getfield 18, 3) := by decide +kernel
theorem dX3_runAndLog_4 : decode cX3_runAndLog 4 = .ok (.iload_n 1, 1) := by decide +kernel
theorem dX3_runAndLog_5 : decode cX3_runAndLog 5 = .ok (.aaload, 1) := by decide +kernel
theorem dX3_runAndLog_6 : decode cX3_runAndLog 6 = .ok (.astore 7, 2) := by decide +kernel
theorem dX3_runAndLog_8 : decode cX3_runAndLog 8 = .ok (.aload 7, 2) := by decide +kernel
theorem dX3_runAndLog_10 : decode cX3_runAndLog 10 = .ok (.lload_n 2, 1) := by decide +kernel
theorem dX3_runAndLog_11 : decode cX3_runAndLog 11 = .ok (.aload_n 0, 1) := by decide +kernel
theorem dX3_runAndLog_12 : decode cX3_runAndLog 12 = .ok (.getfield 46, 3) := by decide +kernel
theorem dX3_runAndLog_15 : decode cX3_runAndLog 15 = .ok (.invokevirtual 225, 3) := by decide +kernel
theorem dX3_runAndLog_18 : decode cX3_runAndLog 18 = .ok (.iload 6, 2) := by decide +kernel
theorem dX3_runAndLog_20 : decode cX3_runAndLog 20 = .ok (.iconst (-1), 1) := by decide +kernel
theorem dX3_runAndLog_21 : decode cX3_runAndLog 21 = .ok (.if_icmp .eq 7, 3) := by decide +kernel
theorem dX3_runAndLog_24 : decode cX3_runAndLog 24 = .ok (.aload_n 0, 1) := by decide +kernel
theorem dX3_runAndLog_25 : decode cX3_runAndLog 25 = .ok (.invokevirtual 229, 3) := by decide +kernel
theorem dX3_runAndLog_28 : decode cX3_runAndLog 28 = .ok (.aload_n 0, 1) := by decide +kernel
theorem dX3_runAndLog_29 : decode cX3_runAndLog 29 = .ok (.aload 7, 2) := by decide +kernel
theorem dX3_runAndLog_31 : decode cX3_runAndLog 31 = .ok (.invokevirtual 232, 3) := by decide +kernel
theorem dX3_runAndLog_34 : decode cX3_runAndLog 34 = .ok (.aload_n 0, 1) := by decide +kernel
theorem dX3_runAndLog_35 : decode cX3_runAndLog 35 = .ok (.getfield 38, 3) := by decide +kernel
theorem dX3_runAndLog_38 : decode cX3_runAndLog 38 = .ok (.istore 8, 2) := by decide +kernel
theorem dX3_runAndLog_40 : decode cX3_runAndLog 40 = .ok (.aload_n 0, 1) := by decide +kernel
theorem dX3_runAndLog_41 : decode cX3_runAndLog 41 = .ok (.getfield 43, 3) := by decide +kernel
theorem dX3_runAndLog_44 : decode cX3_runAndLog 44 = .ok (.iload 8, 2) := by decide +kernel
theorem dX3_runAndLog_46 : decode cX3_runAndLog 46 = .ok (.aaload, 1) := by decide +kernel
theorem dX3_runAndLog_47 : decode cX3_runAndLog 47 = .ok (.iconst 0, 1) := by decide +kernel
theorem dX3_runAndLog_48 : decode cX3_runAndLog 48 = .ok (.aload_n 0, 1) := by decide +kernel
theorem dX3_runAndLog_49 : decode cX3_runAndLog 49 = .ok (.getfield 43, 3) := by decide +kernel
theorem dX3_runAndLog_52 : decode cX3_runAndLog 52 = .ok (.iload 8, 2) := by decide +kernel
theorem dX3_runAndLog_54 : decode cX3_runAndLog 54 = .ok (.iconst 1, 1) := by decide +kernel
theorem dX3_runAndLog_55 : decode cX3_runAndLog 55 = .ok (.iadd, 1) := by decide +kernel
theorem dX3_runAndLog_56 : decode cX3_runAndLog 56 = .ok (.aaload, 1) := by decide +kernel
theorem dX3_runAndLog_57 : decode cX3_runAndLog 57 = .ok (.iconst 0, 1) := by decide +kernel
theorem dX3_runAndLog_58 : decode cX3_runAndLog 58 = .ok (.bipush 8, 2) := by decide +kernel
theorem dX3_runAndLog_60 : decode cX3_runAndLog 60 = .ok (.invokestatic 236, 3) := by decide +kernel
theorem dX3_runAndLog_63 : decode cX3_runAndLog 63 = .ok (.iconst 0, 1) := by decide +kernel
theorem dX3_runAndLog_64 : decode cX3_runAndLog 64 = .ok (.istore 9, 2) := by decide +kernel
theorem dX3_runAndLog_66 : decode cX3_runAndLog 66 = .ok (.iload 9, 2) := by decide +kernel
theorem dX3_runAndLog_68 : decode cX3_runAndLog 68 = .ok (.aload 7, 2) := by decide +kernel
theorem dX3_runAndLog_70 : decode cX3_runAndLog 70 = .ok (.getfield 88, 3) := by decide +kernel
theorem dX3_runAndLog_73 : decode cX3_runAndLog 73 = .ok (.if_icmp .ge 58, 3) := by decide +kernel
theorem dX3_runAndLog_76 : decode cX3_runAndLog 76 = .ok (.aload 7, 2) := by decide +kernel
theorem dX3_runAndLog_78 : decode cX3_runAndLog 78 = .ok (.getfield 242, 3) := by decide +kernel
theorem dX3_runAndLog_81 : decode cX3_runAndLog 81 = .ok (.iload 9, 2) := by decide +kernel
theorem dX3_runAndLog_83 : decode cX3_runAndLog 83 = .ok (.iaload, 1) := by decide +kernel
theorem dX3_runAndLog_84 : decode cX3_runAndLog 84 = .ok (.istore 10, 2) := by decide +kernel
theorem dX3_runAndLog_86 : decode cX3_runAndLog 86 = .ok (.aload_n 0, 1) := by decide +kernel
theorem dX3_runAndLog_87 : decode cX3_runAndLog 87 = .ok (.getfield 9, 3) := by decide +kernel
theorem dX3_runAndLog_90 : decode cX3_runAndLog 90 = .ok (.iload 10, 2) := by decide +kernel
theorem dX3_runAndLog_92 : decode cX3_runAndLog 92 = .ok (.dup2, 1) := by decide +kernel
theorem dX3_runAndLog_93 : decode cX3_runAndLog 93 = .ok (.laload, 1) := by decide +kernel
theorem dX3_runAndLog_94 : decode cX3_runAndLog 94 = .ok (.aload_n 0, 1) := by decide +kernel
theorem dX3_runAndLog_95 : decode cX3_runAndLog 95 = .ok (.getfield 46, 3) := by decide +kernel
theorem dX3_runAndLog_98 : decode cX3_runAndLog 98 = .ok (.iload 9, 2) := by decide +kernel
theorem dX3_runAndLog_100 : decode cX3_runAndLog 100 = .ok (.laload, 1) := by decide +kernel
theorem dX3_runAndLog_101 : decode cX3_runAndLog 101 = .ok (.ladd, 1) := by decide +kernel
theorem dX3_runAndLog_102 : decode cX3_runAndLog 102 = .ok (.lastore, 1) := by decide +kernel
theorem dX3_runAndLog_103 : decode cX3_runAndLog 103 = .ok (.aload_n 0, 1) := by decide +kernel
theorem dX3_runAndLog_104 : decode cX3_runAndLog 104 = .ok (.getfield 43, 3) := by decide +kernel
theorem dX3_runAndLog_107 : decode cX3_runAndLog 107 = .ok (.iload 8, 2) := by decide +kernel
theorem dX3_runAndLog_109 : decode cX3_runAndLog 109 = .ok (.iconst 1, 1) := by decide +kernel
theorem dX3_runAndLog_110 : decode cX3_runAndLog 110 = .ok (.iadd, 1) := by decide +kernel
theorem dX3_runAndLog_111 : decode cX3_runAndLog 111 = .ok (.aaload, 1) := by decide +kernel
theorem dX3_runAndLog_112 : decode cX3_runAndLog 112 = .ok (.iload 10, 2) := by decide +kernel
theorem dX3_runAndLog_114 : decode cX3_runAndLog 114 = .ok (.dup2, 1) := by decide +kernel
theorem dX3_runAndLog_115 : decode cX3_runAndLog 115 = .ok (.laload, 1) := by decide +kernel
theorem dX3_runAndLog_116 : decode cX3_runAndLog 116 = .ok (.aload_n 0, 1) := by decide +kernel
theorem dX3_runAndLog_117 : decode cX3_runAndLog 117 = .ok (.getfield 46, 3) := by decide +kernel
theorem dX3_runAndLog_120 : decode cX3_runAndLog 120 = .ok (.iload 9, 2) := by decide +kernel
theorem dX3_runAndLog_122 : decode cX3_runAndLog 122 = .ok (.laload, 1) := by decide +kernel
theorem dX3_runAndLog_123 : decode cX3_runAndLog 123 = .ok (.ladd, 1) := by decide +kernel
theorem dX3_runAndLog_124 : decode cX3_runAndLog 124 = .ok (.lastore, 1) := by decide +kernel
theorem dX3_runAndLog_125 : decode cX3_runAndLog 125 = .ok (.iinc 9 1, 3) := by decide +kernel
theorem dX3_runAndLog_128 : decode cX3_runAndLog 128 = .ok (.goto (-62), 3) := by decide +kernel
theorem dX3_runAndLog_131 : decode cX3_runAndLog 131 = .ok (.aload_n 0, 1) := by decide +kernel
theorem dX3_runAndLog_132 : decode cX3_runAndLog 132 = .ok (.getfield 34, 3) := by decide +kernel
theorem dX3_runAndLog_135 : decode cX3_runAndLog 135 = .ok (.iload 8, 2) := by decide +kernel
theorem dX3_runAndLog_137 : decode cX3_runAndLog 137 = .ok (.aaload, 1) := by decide +kernel
theorem dX3_runAndLog_138 : decode cX3_runAndLog 138 = .ok (.iload_n 1, 1) := by decide +kernel
theorem dX3_runAndLog_139 : decode cX3_runAndLog 139 = .ok (.lload_n 2, 1) := by decide +kernel
theorem dX3_runAndLog_140 : decode cX3_runAndLog 140 = .ok (.iload 4, 2) := by decide +kernel
theorem dX3_runAndLog_142 : decode cX3_runAndLog 142 = .ok (.iload 5, 2) := by decide +kernel
theorem dX3_runAndLog_144 : decode cX3_runAndLog 144 = .ok (.iload 6, 2) := by decide +kernel
theorem dX3_runAndLog_146 : decode cX3_runAndLog 146 = .ok (.invokevirtual 246, 3) := by decide +kernel
theorem dX3_runAndLog_149 : decode cX3_runAndLog 149 = .ok (.aload_n 0, 1) := by decide +kernel
theorem dX3_runAndLog_150 : decode cX3_runAndLog 150 = .ok (.dup, 1) := by decide +kernel
theorem dX3_runAndLog_151 : decode cX3_runAndLog 151 = .ok (.getfield 38, 3) := by decide +kernel
theorem dX3_runAndLog_154 : decode cX3_runAndLog 154 = .ok (.iconst 1, 1) := by decide +kernel
theorem dX3_runAndLog_155 : decode cX3_runAndLog 155 = .ok (.iadd, 1) := by decide +kernel
theorem dX3_runAndLog_156 : decode cX3_runAndLog 156 = .ok (.putfield 38, 3) := by decide +kernel
theorem dX3_runAndLog_159 : decode cX3_runAndLog 159 = .ok (.iload 8, 2) := by decide +kernel
theorem dX3_runAndLog_161 : decode cX3_runAndLog 161 = .ok (.ireturn, 1) := by decide +kernel
theorem dX3_negatePostings_0 : decode cX3_negatePostings 0 = .ok (.iconst 0, 1) := by decide +kernel
theorem dX3_negatePostings_1 : decode cX3_negatePostings 1 = .ok (.istore_n 1, 1) := by decide +kernel
theorem dX3_negatePostings_2 : decode cX3_negatePostings 2 = .ok (.iload_n 1, 1) := by decide +kernel
theorem dX3_negatePostings_3 : decode cX3_negatePostings 3 = .ok (.iconst 4, 1) := by decide +kernel
theorem dX3_negatePostings_4 : decode cX3_negatePostings 4 = .ok (.if_icmp .ge 22, 3) := by decide +kernel
theorem dX3_negatePostings_7 : decode cX3_negatePostings 7 = .ok (.aload_n 0, 1) := by decide +kernel
theorem dX3_negatePostings_8 : decode cX3_negatePostings 8 = .ok (.getfield 46, 3) := by decide +kernel
theorem dX3_negatePostings_11 : decode cX3_negatePostings 11 = .ok (.iload_n 1, 1) := by decide +kernel
theorem dX3_negatePostings_12 : decode cX3_negatePostings 12 = .ok (.aload_n 0, 1) := by decide +kernel
theorem dX3_negatePostings_13 : decode cX3_negatePostings 13 = .ok (.getfield 46, 3) := by decide +kernel
theorem dX3_negatePostings_16 : decode cX3_negatePostings 16 = .ok (.iload_n 1, 1) := by decide +kernel
theorem dX3_negatePostings_17 : decode cX3_negatePostings 17 = .ok (.laload, 1) := by decide +kernel
theorem dX3_negatePostings_18 : decode cX3_negatePostings 18 = .ok (.lneg, 1) := by decide +kernel
theorem dX3_negatePostings_19 : decode cX3_negatePostings 19 = .ok (.lastore, 1) := by decide +kernel
theorem dX3_negatePostings_20 : decode cX3_negatePostings 20 = .ok (.iinc 1 1, 3) := by decide +kernel
theorem dX3_negatePostings_23 : decode cX3_negatePostings 23 = .ok (.goto (-21), 3) := by decide +kernel
theorem dX3_negatePostings_26 : decode cX3_negatePostings 26 = .ok (.return_, 1) := by decide +kernel
theorem dX3_requireNoLineFails_0 : decode cX3_requireNoLineFails 0 = .ok (.iconst 0, 1) := by decide +kernel
theorem dX3_requireNoLineFails_1 : decode cX3_requireNoLineFails 1 = .ok (.istore_n 2, 1) := by decide +kernel
theorem dX3_requireNoLineFails_2 : decode cX3_requireNoLineFails 2 = .ok (.iload_n 2, 1) := by decide +kernel
theorem dX3_requireNoLineFails_3 : decode cX3_requireNoLineFails 3 = .ok (.aload_n 1, 1) := by decide +kernel
theorem dX3_requireNoLineFails_4 : decode cX3_requireNoLineFails 4 = .ok (.getfield 88, 3) := by decide +kernel
theorem dX3_requireNoLineFails_7 : decode cX3_requireNoLineFails 7 = .ok (.if_icmp .ge 74, 3) := by decide +kernel
theorem dX3_requireNoLineFails_10 : decode cX3_requireNoLineFails 10 = .ok (.aload_n 1, 1) := by decide +kernel
theorem dX3_requireNoLineFails_11 : decode cX3_requireNoLineFails 11 = .ok (.getfield 242, 3) := by decide +kernel
theorem dX3_requireNoLineFails_14 : decode cX3_requireNoLineFails 14 = .ok (.iload_n 2, 1) := by decide +kernel
theorem dX3_requireNoLineFails_15 : decode cX3_requireNoLineFails 15 = .ok (.iaload, 1) := by decide +kernel
theorem dX3_requireNoLineFails_16 : decode cX3_requireNoLineFails 16 = .ok (.istore_n 3, 1) := by decide +kernel
theorem dX3_requireNoLineFails_17 : decode cX3_requireNoLineFails 17 = .ok (.aload_n 0, 1) := by decide +kernel
theorem dX3_requireNoLineFails_18 : decode cX3_requireNoLineFails 18 = .ok (.getfield 9, 3) := by decide +kernel
theorem dX3_requireNoLineFails_21 : decode cX3_requireNoLineFails 21 = .ok (.iload_n 3, 1) := by decide +kernel
theorem dX3_requireNoLineFails_22 : decode cX3_requireNoLineFails 22 = .ok (.laload, 1) := by decide +kernel
theorem dX3_requireNoLineFails_23 : decode cX3_requireNoLineFails 23 = .ok (.lstore 4, 2) := by decide +kernel
theorem dX3_requireNoLineFails_25 : decode cX3_requireNoLineFails 25 = .ok (.lload 4, 2) := by decide +kernel
theorem dX3_requireNoLineFails_27 : decode cX3_requireNoLineFails 27 = .ok (.aload_n 0, 1) := by decide +kernel
theorem dX3_requireNoLineFails_28 : decode cX3_requireNoLineFails 28 = .ok (.getfield 46, 3) := by decide +kernel
theorem dX3_requireNoLineFails_31 : decode cX3_requireNoLineFails 31 = .ok (.iload_n 2, 1) := by decide +kernel
theorem dX3_requireNoLineFails_32 : decode cX3_requireNoLineFails 32 = .ok (.laload, 1) := by decide +kernel
theorem dX3_requireNoLineFails_33 : decode cX3_requireNoLineFails 33 = .ok (.ladd, 1) := by decide +kernel
theorem dX3_requireNoLineFails_34 : decode cX3_requireNoLineFails 34 = .ok (.lstore 6, 2) := by decide +kernel
theorem dX3_requireNoLineFails_36 : decode cX3_requireNoLineFails 36 = .ok (.lload 6, 2) := by decide +kernel
theorem dX3_requireNoLineFails_38 : decode cX3_requireNoLineFails 38 = .ok (.ldc2_w 249, 3) := by decide +kernel
theorem dX3_requireNoLineFails_41 : decode cX3_requireNoLineFails 41 = .ok (.lcmp, 1) := by decide +kernel
theorem dX3_requireNoLineFails_42 : decode cX3_requireNoLineFails 42 = .ok (.ifCond .gt 23, 3) := by decide +kernel
theorem dX3_requireNoLineFails_45 : decode cX3_requireNoLineFails 45 = .ok (.lload 6, 2) := by decide +kernel
theorem dX3_requireNoLineFails_47 : decode cX3_requireNoLineFails 47 = .ok (.aload_n 0, 1) := by decide +kernel
theorem dX3_requireNoLineFails_48 : decode cX3_requireNoLineFails 48 = .ok (.getfield 13, 3) := by decide +kernel
theorem dX3_requireNoLineFails_51 : decode cX3_requireNoLineFails 51 = .ok (.iload_n 3, 1) := by decide +kernel
theorem dX3_requireNoLineFails_52 : decode cX3_requireNoLineFails 52 = .ok (.laload, 1) := by decide +kernel
theorem dX3_requireNoLineFails_53 : decode cX3_requireNoLineFails 53 = .ok (.lcmp, 1) := by decide +kernel
theorem dX3_requireNoLineFails_54 : decode cX3_requireNoLineFails 54 = .ok (.ifCond .ge 21, 3) := by decide +kernel
theorem dX3_requireNoLineFails_57 : decode cX3_requireNoLineFails 57 = .ok (.lload 6, 2) := by decide +kernel
theorem dX3_requireNoLineFails_59 : decode cX3_requireNoLineFails 59 = .ok (.lload 4, 2) := by decide +kernel
theorem dX3_requireNoLineFails_61 : decode cX3_requireNoLineFails 61 = .ok (.lcmp, 1) := by decide +kernel
theorem dX3_requireNoLineFails_62 : decode cX3_requireNoLineFails 62 = .ok (.ifCond .ge 13, 3) := by decide +kernel
theorem dX3_requireNoLineFails_65 : decode cX3_requireNoLineFails 65 = .ok (.new 61, 3) := by decide +kernel
theorem dX3_requireNoLineFails_68 : decode cX3_requireNoLineFails 68 = .ok (.dup, 1) := by decide +kernel
theorem dX3_requireNoLineFails_69 : decode cX3_requireNoLineFails 69 = .ok (.ldc 251, 2) := by decide +kernel
theorem dX3_requireNoLineFails_71 : decode cX3_requireNoLineFails 71 = .ok (.invokespecial 65, 3) := by decide +kernel
theorem dX3_requireNoLineFails_74 : decode cX3_requireNoLineFails 74 = .ok (.athrow, 1) := by decide +kernel
theorem dX3_requireNoLineFails_75 : decode cX3_requireNoLineFails 75 = .ok (.iinc 2 1, 3) := by decide +kernel
theorem dX3_requireNoLineFails_78 : decode cX3_requireNoLineFails 78 = .ok (.goto (-76), 3) := by decide +kernel
theorem dX3_requireNoLineFails_81 : decode cX3_requireNoLineFails 81 = .ok (.return_, 1) := by decide +kernel
theorem dX3_countUnsoundBalances_0 : decode cX3_countUnsoundBalances 0 = .ok (.iconst 0, 1) := by decide +kernel
theorem dX3_countUnsoundBalances_1 : decode cX3_countUnsoundBalances 1 = .ok (.istore_n 1, 1) := by decide +kernel
theorem dX3_countUnsoundBalances_2 : decode cX3_countUnsoundBalances 2 = .ok (.iconst 0, 1) := by decide +kernel
theorem dX3_countUnsoundBalances_3 : decode cX3_countUnsoundBalances 3 = .ok (.istore_n 2, 1) := by decide +kernel
theorem dX3_countUnsoundBalances_4 : decode cX3_countUnsoundBalances 4 = .ok (.iload_n 2, 1) := by decide +kernel
theorem dX3_countUnsoundBalances_5 : decode cX3_countUnsoundBalances 5 = .ok (.bipush 8, 2) := by decide +kernel
theorem dX3_countUnsoundBalances_7 : decode cX3_countUnsoundBalances 7 = .ok (.if_icmp .ge 33, 3) := by decide +kernel
theorem dX3_countUnsoundBalances_10 : decode cX3_countUnsoundBalances 10 = .ok (.aload_n 0, 1) := by decide +kernel
theorem dX3_countUnsoundBalances_11 : decode cX3_countUnsoundBalances 11 = .ok (.getfield 9, 3) := by decide +kernel
theorem dX3_countUnsoundBalances_14 : decode cX3_countUnsoundBalances 14 = .ok (.iload_n 2, 1) := by decide +kernel
theorem dX3_countUnsoundBalances_15 : decode cX3_countUnsoundBalances 15 = .ok (.laload, 1) := by decide +kernel
theorem dX3_countUnsoundBalances_16 : decode cX3_countUnsoundBalances 16 = .ok (.aload_n 0, 1) := by decide +kernel
theorem dX3_countUnsoundBalances_17 : decode cX3_countUnsoundBalances 17 = .ok (.getfield 43, 3) := by decide +kernel
theorem dX3_countUnsoundBalances_20 : decode cX3_countUnsoundBalances 20 = .ok (.aload_n 0, 1) := by decide +kernel
theorem dX3_countUnsoundBalances_21 : decode cX3_countUnsoundBalances 21 = .ok (.getfield 38, 3) := by decide +kernel
theorem dX3_countUnsoundBalances_24 : decode cX3_countUnsoundBalances 24 = .ok (.aaload, 1) := by decide +kernel
theorem dX3_countUnsoundBalances_25 : decode cX3_countUnsoundBalances 25 = .ok (.iload_n 2, 1) := by decide +kernel
theorem dX3_countUnsoundBalances_26 : decode cX3_countUnsoundBalances 26 = .ok (.laload, 1) := by decide +kernel
theorem dX3_countUnsoundBalances_27 : decode cX3_countUnsoundBalances 27 = .ok (.lcmp, 1) := by decide +kernel
theorem dX3_countUnsoundBalances_28 : decode cX3_countUnsoundBalances 28 = .ok (.ifCond .eq 6, 3) := by decide +kernel
theorem dX3_countUnsoundBalances_31 : decode cX3_countUnsoundBalances 31 = .ok (.iinc 1 1, 3) := by decide +kernel
theorem dX3_countUnsoundBalances_34 : decode cX3_countUnsoundBalances 34 = .ok (.iinc 2 1, 3) := by decide +kernel
theorem dX3_countUnsoundBalances_37 : decode cX3_countUnsoundBalances 37 = .ok (.goto (-33), 3) := by decide +kernel
theorem dX3_countUnsoundBalances_40 : decode cX3_countUnsoundBalances 40 = .ok (.iload_n 1, 1) := by decide +kernel
theorem dX3_countUnsoundBalances_41 : decode cX3_countUnsoundBalances 41 = .ok (.ireturn, 1) := by decide +kernel
theorem dX3_requireBooksTakeRun_0 : decode cX3_requireBooksTakeRun 0 = .ok (.aload_n 0, 1) := by decide +kernel
theorem dX3_requireBooksTakeRun_1 : decode cX3_requireBooksTakeRun 1 = .ok (.invokevirtual 191, 3) := by decide +kernel
theorem dX3_requireBooksTakeRun_4 : decode cX3_requireBooksTakeRun 4 = .ok (.ifCond .eq 13, 3) := by decide +kernel
theorem dX3_requireBooksTakeRun_7 : decode cX3_requireBooksTakeRun 7 = .ok (.new 61, 3) := by decide +kernel
theorem dX3_requireBooksTakeRun_10 : decode cX3_requireBooksTakeRun 10 = .ok (.dup, 1) := by decide +kernel
theorem dX3_requireBooksTakeRun_11 : decode cX3_requireBooksTakeRun 11 = .ok (.ldc 253, 2) := by decide +kernel
theorem dX3_requireBooksTakeRun_13 : decode cX3_requireBooksTakeRun 13 = .ok (.invokespecial 65, 3) := by decide +kernel
theorem dX3_requireBooksTakeRun_16 : decode cX3_requireBooksTakeRun 16 = .ok (.athrow, 1) := by decide +kernel
theorem dX3_requireBooksTakeRun_17 : decode cX3_requireBooksTakeRun 17 = .ok (.aload_n 0, 1) := by decide +kernel
theorem dX3_requireBooksTakeRun_18 : decode cX3_requireBooksTakeRun 18 = .ok (.getfield 38, 3) := by decide +kernel
theorem dX3_requireBooksTakeRun_21 : decode cX3_requireBooksTakeRun 21 = .ok (.bipush 40, 2) := by decide +kernel
theorem dX3_requireBooksTakeRun_23 : decode cX3_requireBooksTakeRun 23 = .ok (.if_icmp .lt 13, 3) := by decide +kernel
theorem dX3_requireBooksTakeRun_26 : decode cX3_requireBooksTakeRun 26 = .ok (.new 61, 3) := by decide +kernel
theorem dX3_requireBooksTakeRun_29 : decode cX3_requireBooksTakeRun 29 = .ok (.dup, 1) := by decide +kernel
theorem dX3_requireBooksTakeRun_30 : decode cX3_requireBooksTakeRun 30 = .ok (.ldc 255, 2) := by decide +kernel
theorem dX3_requireBooksTakeRun_32 : decode cX3_requireBooksTakeRun 32 = .ok (.invokespecial 65, 3) := by decide +kernel
theorem dX3_requireBooksTakeRun_35 : decode cX3_requireBooksTakeRun 35 = .ok (.athrow, 1) := by decide +kernel
theorem dX3_requireBooksTakeRun_36 : decode cX3_requireBooksTakeRun 36 = .ok (.return_, 1) := by decide +kernel
theorem dX3_requireMayRun_0 : decode cX3_requireMayRun 0 = .ok (.aload_n 0, 1) := by decide +kernel
theorem dX3_requireMayRun_1 : decode cX3_requireMayRun 1 = .ok (.iload_n 1, 1) := by decide +kernel
theorem dX3_requireMayRun_2 : decode cX3_requireMayRun 2 = .ok (.iload_n 2, 1) := by decide +kernel
theorem dX3_requireMayRun_3 : decode cX3_requireMayRun 3 = .ok (.invokevirtual 212, 3) := by decide +kernel
theorem dX3_requireMayRun_6 : decode cX3_requireMayRun 6 = .ok (.ifCond .ne 14, 3) := by decide +kernel
theorem dX3_requireMayRun_9 : decode cX3_requireMayRun 9 = .ok (.new 108, 3) := by decide +kernel
theorem dX3_requireMayRun_12 : decode cX3_requireMayRun 12 = .ok (.dup, 1) := by decide +kernel
theorem dX3_requireMayRun_13 : decode cX3_requireMayRun 13 = .ok (.ldc_w 257, 3) := by decide +kernel
theorem dX3_requireMayRun_16 : decode cX3_requireMayRun 16 = .ok (.invokespecial 112, 3) := by decide +kernel
theorem dX3_requireMayRun_19 : decode cX3_requireMayRun 19 = .ok (.athrow, 1) := by decide +kernel
theorem dX3_requireMayRun_20 : decode cX3_requireMayRun 20 = .ok (.return_, 1) := by decide +kernel
theorem dX3_requireProcedure_0 : decode cX3_requireProcedure 0 = .ok (.aload_n 0, 1) := by decide +kernel
theorem dX3_requireProcedure_1 : decode cX3_requireProcedure 1 = .ok (.iload_n 1, 1) := by decide +kernel
theorem dX3_requireProcedure_2 : decode cX3_requireProcedure 2 = .ok (.invokevirtual 209, 3) := by decide +kernel
theorem dX3_requireProcedure_5 : decode cX3_requireProcedure 5 = .ok (.ifCond .ne 14, 3) := by decide +kernel
theorem dX3_requireProcedure_8 : decode cX3_requireProcedure 8 = .ok (.new 194, 3) := by decide +kernel
theorem dX3_requireProcedure_11 : decode cX3_requireProcedure 11 = .ok (.dup, 1) := by decide +kernel
theorem dX3_requireProcedure_12 : decode cX3_requireProcedure 12 = .ok (.ldc_w 259, 3) := by decide +kernel
theorem dX3_requireProcedure_15 : decode cX3_requireProcedure 15 = .ok (.invokespecial 198, 3) := by decide +kernel
theorem dX3_requireProcedure_18 : decode cX3_requireProcedure 18 = .ok (.athrow, 1) := by decide +kernel
theorem dX3_requireProcedure_19 : decode cX3_requireProcedure 19 = .ok (.return_, 1) := by decide +kernel
theorem dX3_requireRequest_0 : decode cX3_requireRequest 0 = .ok (.iload_n 1, 1) := by decide +kernel
theorem dX3_requireRequest_1 : decode cX3_requireRequest 1 = .ok (.ifCond .lt 21, 3) := by decide +kernel
theorem dX3_requireRequest_4 : decode cX3_requireRequest 4 = .ok (.iload_n 1, 1) := by decide +kernel
theorem dX3_requireRequest_5 : decode cX3_requireRequest 5 = .ok (.bipush 6, 2) := by decide +kernel
theorem dX3_requireRequest_7 : decode cX3_requireRequest 7 = .ok (.if_icmp .ge 15, 3) := by decide +kernel
theorem dX3_requireRequest_10 : decode cX3_requireRequest 10 = .ok (.aload_n 0, 1) := by decide +kernel
theorem dX3_requireRequest_11 : decode cX3_requireRequest 11 = .ok (.getfield 28, 3) := by decide +kernel
theorem dX3_requireRequest_14 : decode cX3_requireRequest 14 = .ok (.iload_n 1, 1) := by decide +kernel
theorem dX3_requireRequest_15 : decode cX3_requireRequest 15 = .ok (.aaload, 1) := by decide +kernel
theorem dX3_requireRequest_16 : decode cX3_requireRequest 16 = .ok (.invokevirtual 216, 3) := by decide +kernel
theorem dX3_requireRequest_19 : decode cX3_requireRequest 19 = .ok (.ifCond .ne 14, 3) := by decide +kernel
theorem dX3_requireRequest_22 : decode cX3_requireRequest 22 = .ok (.new 194, 3) := by decide +kernel
theorem dX3_requireRequest_25 : decode cX3_requireRequest 25 = .ok (.dup, 1) := by decide +kernel
theorem dX3_requireRequest_26 : decode cX3_requireRequest 26 = .ok (.ldc_w 261, 3) := by decide +kernel
theorem dX3_requireRequest_29 : decode cX3_requireRequest 29 = .ok (.invokespecial 198, 3) := by decide +kernel
theorem dX3_requireRequest_32 : decode cX3_requireRequest 32 = .ok (.athrow, 1) := by decide +kernel
theorem dX3_requireRequest_33 : decode cX3_requireRequest 33 = .ok (.return_, 1) := by decide +kernel
theorem dX3_requireEntry_0 : decode cX3_requireEntry 0 = .ok (.iload_n 1, 1) := by decide +kernel
theorem dX3_requireEntry_1 : decode cX3_requireEntry 1 = .ok (.ifCond .lt 11, 3) := by decide +kernel
theorem dX3_requireEntry_4 : decode cX3_requireEntry 4 = .ok (.iload_n 1, 1) := by decide +kernel
theorem dX3_requireEntry_5 : decode cX3_requireEntry 5 = .ok (.aload_n 0, 1) := by decide +kernel
theorem dX3_requireEntry_6 : decode cX3_requireEntry 6 = .ok (.getfield 38, 3) := by decide +kernel
theorem dX3_requireEntry_9 : decode cX3_requireEntry 9 = .ok (.if_icmp .lt 14, 3) := by decide +kernel
theorem dX3_requireEntry_12 : decode cX3_requireEntry 12 = .ok (.new 194, 3) := by decide +kernel
theorem dX3_requireEntry_15 : decode cX3_requireEntry 15 = .ok (.dup, 1) := by decide +kernel
theorem dX3_requireEntry_16 : decode cX3_requireEntry 16 = .ok (.ldc_w 263, 3) := by decide +kernel
theorem dX3_requireEntry_19 : decode cX3_requireEntry 19 = .ok (.invokespecial 198, 3) := by decide +kernel
theorem dX3_requireEntry_22 : decode cX3_requireEntry 22 = .ok (.athrow, 1) := by decide +kernel
theorem dX3_requireEntry_23 : decode cX3_requireEntry 23 = .ok (.return_, 1) := by decide +kernel
theorem dX3_isProcedure_0 : decode cX3_isProcedure 0 = .ok (.iload_n 1, 1) := by decide +kernel
theorem dX3_isProcedure_1 : decode cX3_isProcedure 1 = .ok (.ifCond .lt 15, 3) := by decide +kernel
theorem dX3_isProcedure_4 : decode cX3_isProcedure 4 = .ok (.iload_n 1, 1) := by decide +kernel
theorem dX3_isProcedure_5 : decode cX3_isProcedure 5 = .ok (.aload_n 0, 1) := by decide +kernel
theorem dX3_isProcedure_6 : decode cX3_isProcedure 6 = .ok (.getfield 22, 3) := by decide +kernel
theorem dX3_isProcedure_9 : decode cX3_isProcedure 9 = .ok (.if_icmp .ge 7, 3) := by decide +kernel
theorem dX3_isProcedure_12 : decode cX3_isProcedure 12 = .ok (.iconst 1, 1) := by decide +kernel
theorem dX3_isProcedure_13 : decode cX3_isProcedure 13 = .ok (.goto 4, 3) := by decide +kernel
theorem dX3_isProcedure_16 : decode cX3_isProcedure 16 = .ok (.iconst 0, 1) := by decide +kernel
theorem dX3_isProcedure_17 : decode cX3_isProcedure 17 = .ok (.ireturn, 1) := by decide +kernel
theorem dX3_isUser_0 : decode cX3_isUser 0 = .ok (.iload_n 0, 1) := by decide +kernel
theorem dX3_isUser_1 : decode cX3_isUser 1 = .ok (.ifCond .lt 13, 3) := by decide +kernel
theorem dX3_isUser_4 : decode cX3_isUser 4 = .ok (.iload_n 0, 1) := by decide +kernel
theorem dX3_isUser_5 : decode cX3_isUser 5 = .ok (.bipush 8, 2) := by decide +kernel
theorem dX3_isUser_7 : decode cX3_isUser 7 = .ok (.if_icmp .ge 7, 3) := by decide +kernel
theorem dX3_isUser_10 : decode cX3_isUser 10 = .ok (.iconst 1, 1) := by decide +kernel
theorem dX3_isUser_11 : decode cX3_isUser 11 = .ok (.goto 4, 3) := by decide +kernel
theorem dX3_isUser_14 : decode cX3_isUser 14 = .ok (.iconst 0, 1) := by decide +kernel
theorem dX3_isUser_15 : decode cX3_isUser 15 = .ok (.ireturn, 1) := by decide +kernel
theorem dX3_isBeyondLimit_0 : decode cX3_isBeyondLimit 0 = .ok (.lload_n 0, 1) := by decide +kernel
theorem dX3_isBeyondLimit_1 : decode cX3_isBeyondLimit 1 = .ok (.ldc2_w 49, 3) := by decide +kernel
theorem dX3_isBeyondLimit_4 : decode cX3_isBeyondLimit 4 = .ok (.lcmp, 1) := by decide +kernel
theorem dX3_isBeyondLimit_5 : decode cX3_isBeyondLimit 5 = .ok (.ifCond .lt 11, 3) := by decide +kernel
theorem dX3_isBeyondLimit_8 : decode cX3_isBeyondLimit 8 = .ok (.lload_n 0, 1) := by decide +kernel
theorem dX3_isBeyondLimit_9 : decode cX3_isBeyondLimit 9 = .ok (.ldc2_w 249, 3) := by decide +kernel
theorem dX3_isBeyondLimit_12 : decode cX3_isBeyondLimit 12 = .ok (.lcmp, 1) := by decide +kernel
theorem dX3_isBeyondLimit_13 : decode cX3_isBeyondLimit 13 = .ok (.ifCond .le 7, 3) := by decide +kernel
theorem dX3_isBeyondLimit_16 : decode cX3_isBeyondLimit 16 = .ok (.iconst 1, 1) := by decide +kernel
theorem dX3_isBeyondLimit_17 : decode cX3_isBeyondLimit 17 = .ok (.goto 4, 3) := by decide +kernel
theorem dX3_isBeyondLimit_20 : decode cX3_isBeyondLimit 20 = .ok (.iconst 0, 1) := by decide +kernel
theorem dX3_isBeyondLimit_21 : decode cX3_isBeyondLimit 21 = .ok (.ireturn, 1) := by decide +kernel
theorem dX3_requireAccount_0 : decode cX3_requireAccount 0 = .ok (.iload_n 0, 1) := by decide +kernel
theorem dX3_requireAccount_1 : decode cX3_requireAccount 1 = .ok (.ifCond .lt 9, 3) := by decide +kernel
theorem dX3_requireAccount_4 : decode cX3_requireAccount 4 = .ok (.iload_n 0, 1) := by decide +kernel
theorem dX3_requireAccount_5 : decode cX3_requireAccount 5 = .ok (.bipush 8, 2) := by decide +kernel
theorem dX3_requireAccount_7 : decode cX3_requireAccount 7 = .ok (.if_icmp .lt 14, 3) := by decide +kernel
theorem dX3_requireAccount_10 : decode cX3_requireAccount 10 = .ok (.new 194, 3) := by decide +kernel
theorem dX3_requireAccount_13 : decode cX3_requireAccount 13 = .ok (.dup, 1) := by decide +kernel
theorem dX3_requireAccount_14 : decode cX3_requireAccount 14 = .ok (.ldc_w 265, 3) := by decide +kernel
theorem dX3_requireAccount_17 : decode cX3_requireAccount 17 = .ok (.invokespecial 198, 3) := by decide +kernel
theorem dX3_requireAccount_20 : decode cX3_requireAccount 20 = .ok (.athrow, 1) := by decide +kernel
theorem dX3_requireAccount_21 : decode cX3_requireAccount 21 = .ok (.return_, 1) := by decide +kernel
theorem dX3_requireUser_0 : decode cX3_requireUser 0 = .ok (.iload_n 0, 1) := by decide +kernel
theorem dX3_requireUser_1 : decode cX3_requireUser 1 = .ok (.invokestatic 206, 3) := by decide +kernel
theorem dX3_requireUser_4 : decode cX3_requireUser 4 = .ok (.ifCond .ne 14, 3) := by decide +kernel
theorem dX3_requireUser_7 : decode cX3_requireUser 7 = .ok (.new 194, 3) := by decide +kernel
theorem dX3_requireUser_10 : decode cX3_requireUser 10 = .ok (.dup, 1) := by decide +kernel
theorem dX3_requireUser_11 : decode cX3_requireUser 11 = .ok (.ldc_w 267, 3) := by decide +kernel
theorem dX3_requireUser_14 : decode cX3_requireUser 14 = .ok (.invokespecial 198, 3) := by decide +kernel
theorem dX3_requireUser_17 : decode cX3_requireUser 17 = .ok (.athrow, 1) := by decide +kernel
theorem dX3_requireUser_18 : decode cX3_requireUser 18 = .ok (.return_, 1) := by decide +kernel
theorem dX3_requireOfficer_0 : decode cX3_requireOfficer 0 = .ok (.iload_n 0, 1) := by decide +kernel
theorem dX3_requireOfficer_1 : decode cX3_requireOfficer 1 = .ok (.iconst 2, 1) := by decide +kernel
theorem dX3_requireOfficer_2 : decode cX3_requireOfficer 2 = .ok (.if_icmp .lt 14, 3) := by decide +kernel
theorem dX3_requireOfficer_5 : decode cX3_requireOfficer 5 = .ok (.new 108, 3) := by decide +kernel
theorem dX3_requireOfficer_8 : decode cX3_requireOfficer 8 = .ok (.dup, 1) := by decide +kernel
theorem dX3_requireOfficer_9 : decode cX3_requireOfficer 9 = .ok (.ldc_w 269, 3) := by decide +kernel
theorem dX3_requireOfficer_12 : decode cX3_requireOfficer 12 = .ok (.invokespecial 112, 3) := by decide +kernel
theorem dX3_requireOfficer_15 : decode cX3_requireOfficer 15 = .ok (.athrow, 1) := by decide +kernel
theorem dX3_requireOfficer_16 : decode cX3_requireOfficer 16 = .ok (.return_, 1) := by decide +kernel
theorem dX3_requireShare_0 : decode cX3_requireShare 0 = .ok (.iload_n 0, 1) := by decide +kernel
theorem dX3_requireShare_1 : decode cX3_requireShare 1 = .ok (.bipush (-100), 2) := by decide +kernel
theorem dX3_requireShare_3 : decode cX3_requireShare 3 = .ok (.if_icmp .lt 13, 3) := by decide +kernel
theorem dX3_requireShare_6 : decode cX3_requireShare 6 = .ok (.iload_n 0, 1) := by decide +kernel
theorem dX3_requireShare_7 : decode cX3_requireShare 7 = .ok (.bipush 100, 2) := by decide +kernel
theorem dX3_requireShare_9 : decode cX3_requireShare 9 = .ok (.if_icmp .gt 7, 3) := by decide +kernel
theorem dX3_requireShare_12 : decode cX3_requireShare 12 = .ok (.iload_n 0, 1) := by decide +kernel
theorem dX3_requireShare_13 : decode cX3_requireShare 13 = .ok (.ifCond .ne 14, 3) := by decide +kernel
theorem dX3_requireShare_16 : decode cX3_requireShare 16 = .ok (.new 79, 3) := by decide +kernel
theorem dX3_requireShare_19 : decode cX3_requireShare 19 = .ok (.dup, 1) := by decide +kernel
theorem dX3_requireShare_20 : decode cX3_requireShare 20 = .ok (.ldc_w 271, 3) := by decide +kernel
theorem dX3_requireShare_23 : decode cX3_requireShare 23 = .ok (.invokespecial 83, 3) := by decide +kernel
theorem dX3_requireShare_26 : decode cX3_requireShare 26 = .ok (.athrow, 1) := by decide +kernel
theorem dX3_requireShare_27 : decode cX3_requireShare 27 = .ok (.return_, 1) := by decide +kernel
