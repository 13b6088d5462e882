theorem dX4_init_0 : decode cX4_init 0 = .ok (.aload_n 0, 1) := by decide +kernel
theorem dX4_init_1 : decode cX4_init 1 = .ok (.invokespecial 1, 3) := by decide +kernel
theorem dX4_init_4 : decode cX4_init 4 = .ok (.aload_n 0, 1) := by decide +kernel
theorem dX4_init_5 : decode cX4_init 5 = .ok (.bipush 8, 2) := by decide +kernel
theorem dX4_init_7 : decode cX4_init 7 = .ok (.newarray .long, 2) := by decide +kernel
theorem dX4_init_9 : decode cX4_init 9 = .ok (.putfield 7, 3) := by decide +kernel
theorem dX4_init_12 : decode cX4_init 12 = .ok (.aload_n 0, 1) := by decide +kernel
theorem dX4_init_13 : decode cX4_init 13 = .ok (.bipush 8, 2) := by decide +kernel
theorem dX4_init_15 : decode cX4_init 15 = .ok (.newarray .long, 2) := by decide +kernel
theorem dX4_init_17 : decode cX4_init 17 = .ok (.putfield 13, 3) := by decide +kernel
theorem dX4_init_20 : decode cX4_init 20 = .ok (.aload_n 0, 1) := by decide +kernel
theorem dX4_init_21 : decode cX4_init 21 = .ok (.bipush 10, 2) := by decide +kernel
theorem dX4_init_23 : decode cX4_init 23 = .ok (.newarray .int, 2) := by decide +kernel
theorem dX4_init_25 : decode cX4_init 25 = .ok (.putfield 16, 3) := by decide +kernel
theorem dX4_init_28 : decode cX4_init 28 = .ok (.aload_n 0, 1) := by decide +kernel
theorem dX4_init_29 : decode cX4_init 29 = .ok (.bipush 10, 2) := by decide +kernel
theorem dX4_init_31 : decode cX4_init 31 = .ok (.newarray .int, 2) := by decide +kernel
theorem dX4_init_33 : decode cX4_init 33 = .ok (.putfield 20, 3) := by decide +kernel
theorem dX4_init_36 : decode cX4_init 36 = .ok (.aload_n 0, 1) := by decide +kernel
theorem dX4_init_37 : decode cX4_init 37 = .ok (.bipush 40, 2) := by decide +kernel
theorem dX4_init_39 : decode cX4_init 39 = .ok (.newarray .int, 2) := by decide +kernel
theorem dX4_init_41 : decode cX4_init 41 = .ok (.putfield 23, 3) := by decide +kernel
theorem dX4_init_44 : decode cX4_init 44 = .ok (.aload_n 0, 1) := by decide +kernel
theorem dX4_init_45 : decode cX4_init 45 = .ok (.bipush 40, 2) := by decide +kernel
theorem dX4_init_47 : decode cX4_init 47 = .ok (.newarray .int, 2) := by decide +kernel
theorem dX4_init_49 : decode cX4_init 49 = .ok (.putfield 26, 3) := by decide +kernel
theorem dX4_init_52 : decode cX4_init 52 = .ok (.aload_n 0, 1) := by decide +kernel
theorem dX4_init_53 : decode cX4_init 53 = .ok (.bipush 80, 2) := by decide +kernel
theorem dX4_init_55 : decode cX4_init 55 = .ok (.newarray .boolean, 2) := by decide +kernel
theorem dX4_init_57 : decode cX4_init 57 = .ok (.putfield 29, 3) := by decide +kernel
theorem dX4_init_60 : decode cX4_init 60 = .ok (.aload_n 0, 1) := by decide +kernel
theorem dX4_init_61 : decode cX4_init 61 = .ok (.bipush 40, 2) := by decide +kernel
theorem dX4_init_63 : decode cX4_init 63 = .ok (.newarray .int, 2) := by decide +kernel
theorem dX4_init_65 : decode cX4_init 65 = .ok (.putfield 33, 3) := by decide +kernel
theorem dX4_init_68 : decode cX4_init 68 = .ok (.aload_n 0, 1) := by decide +kernel
theorem dX4_init_69 : decode cX4_init 69 = .ok (.bipush 40, 2) := by decide +kernel
theorem dX4_init_71 : decode cX4_init 71 = .ok (.newarray .long, 2) := by decide +kernel
theorem dX4_init_73 : decode cX4_init 73 = .ok (.putfield 36, 3) := by decide +kernel
theorem dX4_init_76 : decode cX4_init 76 = .ok (.aload_n 0, 1) := by decide +kernel
theorem dX4_init_77 : decode cX4_init 77 = .ok (.bipush 40, 2) := by decide +kernel
theorem dX4_init_79 : decode cX4_init 79 = .ok (.newarray .int, 2) := by decide +kernel
theorem dX4_init_81 : decode cX4_init 81 = .ok (.putfield 39, 3) := by decide +kernel
theorem dX4_init_84 : decode cX4_init 84 = .ok (.aload_n 0, 1) := by decide +kernel
theorem dX4_init_85 : decode cX4_init 85 = .ok (.bipush 40, 2) := by decide +kernel
theorem dX4_init_87 : decode cX4_init 87 = .ok (.newarray .int, 2) := by decide +kernel
theorem dX4_init_89 : decode cX4_init 89 = .ok (.putfield 42, 3) := by decide +kernel
theorem dX4_init_92 : decode cX4_init 92 = .ok (.aload_n 0, 1) := by decide +kernel
theorem dX4_init_93 : decode cX4_init 93 = .ok (.bipush 40, 2) := by decide +kernel
theorem dX4_init_95 : decode cX4_init 95 = .ok (.newarray .int, 2) := by decide +kernel
theorem dX4_init_97 : decode cX4_init 97 = .ok (.putfield 45, 3) := by decide +kernel
theorem dX4_init_100 : decode cX4_init 100 = .ok (.aload_n 0, 1) := by decide +kernel
theorem dX4_init_101 : decode cX4_init 101 = .ok (.bipush 40, 2) := by decide +kernel
theorem dX4_init_103 : decode cX4_init 103 = .ok (.newarray .int, 2) := by decide +kernel
theorem dX4_init_105 : decode cX4_init 105 = .ok (.putfield 48, 3) := by decide +kernel
theorem dX4_init_108 : decode cX4_init 108 = .ok (.aload_n 0, 1) := by decide +kernel
theorem dX4_init_109 : decode cX4_init 109 = .ok (.bipush 6, 2) := by decide +kernel
theorem dX4_init_111 : decode cX4_init 111 = .ok (.newarray .int, 2) := by decide +kernel
theorem dX4_init_113 : decode cX4_init 113 = .ok (.putfield 51, 3) := by decide +kernel
theorem dX4_init_116 : decode cX4_init 116 = .ok (.aload_n 0, 1) := by decide +kernel
theorem dX4_init_117 : decode cX4_init 117 = .ok (.bipush 6, 2) := by decide +kernel
theorem dX4_init_119 : decode cX4_init 119 = .ok (.newarray .int, 2) := by decide +kernel
theorem dX4_init_121 : decode cX4_init 121 = .ok (.putfield 54, 3) := by decide +kernel
theorem dX4_init_124 : decode cX4_init 124 = .ok (.aload_n 0, 1) := by decide +kernel
theorem dX4_init_125 : decode cX4_init 125 = .ok (.bipush 6, 2) := by decide +kernel
theorem dX4_init_127 : decode cX4_init 127 = .ok (.newarray .long, 2) := by decide +kernel
theorem dX4_init_129 : decode cX4_init 129 = .ok (.putfield 57, 3) := by decide +kernel
theorem dX4_init_132 : decode cX4_init 132 = .ok (.aload_n 0, 1) := by decide +kernel
theorem dX4_init_133 : decode cX4_init 133 = .ok (.iconst 4, 1) := by decide +kernel
theorem dX4_init_134 : decode cX4_init 134 = .ok (.newarray .long, 2) := by decide +kernel
theorem dX4_init_136 : decode cX4_init 136 = .ok (.putfield 60, 3) := by decide +kernel
theorem dX4_init_139 : decode cX4_init 139 = .ok (.iconst 0, 1) := by decide +kernel
theorem dX4_init_140 : decode cX4_init 140 = .ok (.istore_n 1, 1) := by decide +kernel
theorem dX4_init_141 : decode cX4_init 141 = .ok (.iload_n 1, 1) := by decide +kernel
theorem dX4_init_142 : decode cX4_init 142 = .ok (.bipush 8, 2) := by decide +kernel
theorem dX4_init_144 : decode cX4_init 144 = .ok (.if_icmp .ge 18, 3) := by decide +kernel
theorem dX4_init_147 : decode cX4_init 147 = .ok (.aload_n 0, 1) := by decide +kernel
theorem dX4_init_148 : decode cX4_init 148 = .ok (.getfield 13, 3) := by decide +kernel
theorem dX4_init_151 : decode cX4_init 151 = .ok (.iload_n 1, 1) := by decide +kernel
theorem dX4_init_152 : decode cX4_init 152 = .ok (.ldc2_w 63, 3) := by decide +kernel
theorem dX4_init_155 : decode cX4_init 155 = .ok (.lastore, 1) := by decide +kernel
theorem dX4_init_156 : decode cX4_init 156 = .ok (.iinc 1 1, 3) := by decide +kernel
theorem dX4_init_159 : decode cX4_init 159 = .ok (.goto (-18), 3) := by decide +kernel
theorem dX4_init_162 : decode cX4_init 162 = .ok (.iconst 0, 1) := by decide +kernel
theorem dX4_init_163 : decode cX4_init 163 = .ok (.istore_n 1, 1) := by decide +kernel
theorem dX4_init_164 : decode cX4_init 164 = .ok (.iload_n 1, 1) := by decide +kernel
theorem dX4_init_165 : decode cX4_init 165 = .ok (.bipush 6, 2) := by decide +kernel
theorem dX4_init_167 : decode cX4_init 167 = .ok (.if_icmp .ge 16, 3) := by decide +kernel
theorem dX4_init_170 : decode cX4_init 170 = .ok (.aload_n 0, 1) := by decide +kernel
theorem dX4_init_171 : decode cX4_init 171 = .ok (.getfield 51, 3) := by decide +kernel
theorem dX4_init_174 : decode cX4_init 174 = .ok (.iload_n 1, 1) := by decide +kernel
theorem dX4_init_175 : decode cX4_init 175 = .ok (.iconst (-1), 1) := by decide +kernel
theorem dX4_init_176 : decode cX4_init 176 = .ok (.iastore, 1) := by decide +kernel
theorem dX4_init_177 : decode cX4_init 177 = .ok (.iinc 1 1, 3) := by decide +kernel
theorem dX4_init_180 : decode cX4_init 180 = .ok (.goto (-16), 3) := by decide +kernel
theorem dX4_init_183 : decode cX4_init 183 = .ok (.return_, 1) := by decide +kernel
theorem dX4_thrown_0 : decode cX4_thrown 0 = .ok (.aload_n 0, 1) := by decide +kernel
theorem dX4_thrown_1 : decode cX4_thrown 1 = .ok (.getfield 65, 3) := by decide +kernel
theorem dX4_thrown_4 : decode cX4_thrown 4 = .ok (.ireturn, 1) := by decide +kernel
theorem dX4_isOne_0 : decode cX4_isOne 0 = .ok (.iload_n 0, 1) := by decide +kernel
theorem dX4_isOne_1 : decode cX4_isOne 1 = .ok (.ifCond .lt 13, 3) := by decide +kernel
theorem dX4_isOne_4 : decode cX4_isOne 4 = .ok (.iload_n 0, 1) := by decide +kernel
theorem dX4_isOne_5 : decode cX4_isOne 5 = .ok (.bipush 7, 2) := by decide +kernel
theorem dX4_isOne_7 : decode cX4_isOne 7 = .ok (.if_icmp .gt 7, 3) := by decide +kernel
theorem dX4_isOne_10 : decode cX4_isOne 10 = .ok (.iconst 1, 1) := by decide +kernel
theorem dX4_isOne_11 : decode cX4_isOne 11 = .ok (.goto 4, 3) := by decide +kernel
theorem dX4_isOne_14 : decode cX4_isOne 14 = .ok (.iconst 0, 1) := by decide +kernel
theorem dX4_isOne_15 : decode cX4_isOne 15 = .ok (.ireturn, 1) := by decide +kernel
theorem dX4_isProcedure_0 : decode cX4_isProcedure 0 = .ok (.iload_n 1, 1) := by decide +kernel
theorem dX4_isProcedure_1 : decode cX4_isProcedure 1 = .ok (.ifCond .lt 15, 3) := by decide +kernel
theorem dX4_isProcedure_4 : decode cX4_isProcedure 4 = .ok (.iload_n 1, 1) := by decide +kernel
theorem dX4_isProcedure_5 : decode cX4_isProcedure 5 = .ok (.aload_n 0, 1) := by decide +kernel
theorem dX4_isProcedure_6 : decode cX4_isProcedure 6 = .ok (.getfield 69, 3) := by decide +kernel
theorem dX4_isProcedure_9 : decode cX4_isProcedure 9 = .ok (.if_icmp .ge 7, 3) := by decide +kernel
theorem dX4_isProcedure_12 : decode cX4_isProcedure 12 = .ok (.iconst 1, 1) := by decide +kernel
theorem dX4_isProcedure_13 : decode cX4_isProcedure 13 = .ok (.goto 4, 3) := by decide +kernel
theorem dX4_isProcedure_16 : decode cX4_isProcedure 16 = .ok (.iconst 0, 1) := by decide +kernel
theorem dX4_isProcedure_17 : decode cX4_isProcedure 17 = .ok (.ireturn, 1) := by decide +kernel
theorem dX4_isOfficer_0 : decode cX4_isOfficer 0 = .ok (.iload_n 0, 1) := by decide +kernel
theorem dX4_isOfficer_1 : decode cX4_isOfficer 1 = .ok (.ifCond .eq 8, 3) := by decide +kernel
theorem dX4_isOfficer_4 : decode cX4_isOfficer 4 = .ok (.iload_n 0, 1) := by decide +kernel
theorem dX4_isOfficer_5 : decode cX4_isOfficer 5 = .ok (.iconst 1, 1) := by decide +kernel
theorem dX4_isOfficer_6 : decode cX4_isOfficer 6 = .ok (.if_icmp .ne 7, 3) := by decide +kernel
theorem dX4_isOfficer_9 : decode cX4_isOfficer 9 = .ok (.iconst 1, 1) := by decide +kernel
theorem dX4_isOfficer_10 : decode cX4_isOfficer 10 = .ok (.goto 4, 3) := by decide +kernel
theorem dX4_isOfficer_13 : decode cX4_isOfficer 13 = .ok (.iconst 0, 1) := by decide +kernel
theorem dX4_isOfficer_14 : decode cX4_isOfficer 14 = .ok (.ireturn, 1) := by decide +kernel
theorem dX4_isShare_0 : decode cX4_isShare 0 = .ok (.iload_n 0, 1) := by decide +kernel
theorem dX4_isShare_1 : decode cX4_isShare 1 = .ok (.bipush (-100), 2) := by decide +kernel
theorem dX4_isShare_3 : decode cX4_isShare 3 = .ok (.if_icmp .lt 17, 3) := by decide +kernel
theorem dX4_isShare_6 : decode cX4_isShare 6 = .ok (.iload_n 0, 1) := by decide +kernel
theorem dX4_isShare_7 : decode cX4_isShare 7 = .ok (.bipush 100, 2) := by decide +kernel
theorem dX4_isShare_9 : decode cX4_isShare 9 = .ok (.if_icmp .gt 11, 3) := by decide +kernel
theorem dX4_isShare_12 : decode cX4_isShare 12 = .ok (.iload_n 0, 1) := by decide +kernel
theorem dX4_isShare_13 : decode cX4_isShare 13 = .ok (.ifCond .eq 7, 3) := by decide +kernel
theorem dX4_isShare_16 : decode cX4_isShare 16 = .ok (.iconst 1, 1) := by decide +kernel
theorem dX4_isShare_17 : decode cX4_isShare 17 = .ok (.goto 4, 3) := by decide +kernel
theorem dX4_isShare_20 : decode cX4_isShare 20 = .ok (.iconst 0, 1) := by decide +kernel
theorem dX4_isShare_21 : decode cX4_isShare 21 = .ok (.ireturn, 1) := by decide +kernel
theorem dX4_draw_0 : decode cX4_draw 0 = .ok (.aload_n 0, 1) := by decide +kernel
theorem dX4_draw_1 : decode cX4_draw 1 = .ok (.iload_n 1, 1) := by decide +kernel
theorem dX4_draw_2 : decode cX4_draw 2 = .ok (.invokestatic 72, 3) := by decide +kernel
theorem dX4_draw_5 : decode cX4_draw 5 = .ok (.ifCond .ne 7, 3) := by decide +kernel
theorem dX4_draw_8 : decode cX4_draw 8 = .ok (.iconst 1, 1) := by decide +kernel
theorem dX4_draw_9 : decode cX4_draw 9 = .ok (.goto 28, 3) := by decide +kernel
theorem dX4_draw_12 : decode cX4_draw 12 = .ok (.iload_n 2, 1) := by decide +kernel
theorem dX4_draw_13 : decode cX4_draw 13 = .ok (.invokestatic 76, 3) := by decide +kernel
theorem dX4_draw_16 : decode cX4_draw 16 = .ok (.ifCond .ne 7, 3) := by decide +kernel
theorem dX4_draw_19 : decode cX4_draw 19 = .ok (.iconst 2, 1) := by decide +kernel
theorem dX4_draw_20 : decode cX4_draw 20 = .ok (.goto 17, 3) := by decide +kernel
theorem dX4_draw_23 : decode cX4_draw 23 = .ok (.aload_n 0, 1) := by decide +kernel
theorem dX4_draw_24 : decode cX4_draw 24 = .ok (.getfield 69, 3) := by decide +kernel
theorem dX4_draw_27 : decode cX4_draw 27 = .ok (.bipush 10, 2) := by decide +kernel
theorem dX4_draw_29 : decode cX4_draw 29 = .ok (.if_icmp .ne 7, 3) := by decide +kernel
theorem dX4_draw_32 : decode cX4_draw 32 = .ok (.iconst 3, 1) := by decide +kernel
theorem dX4_draw_33 : decode cX4_draw 33 = .ok (.goto 4, 3) := by decide +kernel
theorem dX4_draw_36 : decode cX4_draw 36 = .ok (.iconst 0, 1) := by decide +kernel
theorem dX4_draw_37 : decode cX4_draw 37 = .ok (.putfield 65, 3) := by decide +kernel
theorem dX4_draw_40 : decode cX4_draw 40 = .ok (.aload_n 0, 1) := by decide +kernel
theorem dX4_draw_41 : decode cX4_draw 41 = .ok (.getfield 65, 3) := by decide +kernel
theorem dX4_draw_44 : decode cX4_draw 44 = .ok (.ifCond .le 5, 3) := by decide +kernel
theorem dX4_draw_47 : decode cX4_draw 47 = .ok (.iconst 0, 1) := by decide +kernel
theorem dX4_draw_48 : decode cX4_draw 48 = .ok (.ireturn, 1) := by decide +kernel
theorem dX4_draw_49 : decode cX4_draw 49 = .ok (.aload_n 0, 1) := by decide +kernel
theorem dX4_draw_50 : decode cX4_draw 50 = .ok (.getfield 69, 3) := by decide +kernel
theorem dX4_draw_53 : decode cX4_draw 53 = .ok (.istore_n 3, 1) := by decide +kernel
theorem dX4_draw_54 : decode cX4_draw 54 = .ok (.aload_n 0, 1) := by decide +kernel
theorem dX4_draw_55 : decode cX4_draw 55 = .ok (.dup, 1) := by decide +kernel
theorem dX4_draw_56 : decode cX4_draw 56 = .ok (.getfield 69, 3) := by decide +kernel
theorem dX4_draw_59 : decode cX4_draw 59 = .ok (.iconst 1, 1) := by decide +kernel
theorem dX4_draw_60 : decode cX4_draw 60 = .ok (.iadd, 1) := by decide +kernel
theorem dX4_draw_61 : decode cX4_draw 61 = .ok (.putfield 69, 3) := by decide +kernel
theorem dX4_draw_64 : decode cX4_draw 64 = .ok (.aload_n 0, 1) := by decide +kernel
theorem dX4_draw_65 : decode cX4_draw 65 = .ok (.getfield 16, 3) := by decide +kernel
theorem dX4_draw_68 : decode cX4_draw 68 = .ok (.iload_n 3, 1) := by decide +kernel
theorem dX4_draw_69 : decode cX4_draw 69 = .ok (.iconst 1, 1) := by decide +kernel
theorem dX4_draw_70 : decode cX4_draw 70 = .ok (.iastore, 1) := by decide +kernel
theorem dX4_draw_71 : decode cX4_draw 71 = .ok (.aload_n 0, 1) := by decide +kernel
theorem dX4_draw_72 : decode cX4_draw 72 = .ok (.getfield 20, 3) := by decide +kernel
theorem dX4_draw_75 : decode cX4_draw 75 = .ok (.iload_n 3, 1) := by decide +kernel
theorem dX4_draw_76 : decode cX4_draw 76 = .ok (.iconst (-1), 1) := by decide +kernel
theorem dX4_draw_77 : decode cX4_draw 77 = .ok (.iastore, 1) := by decide +kernel
theorem dX4_draw_78 : decode cX4_draw 78 = .ok (.aload_n 0, 1) := by decide +kernel
theorem dX4_draw_79 : decode cX4_draw 79 = .ok (.getfield 23, 3) := by decide +kernel
theorem dX4_draw_82 : decode cX4_draw 82 = .ok (.iconst 4, 1) := by decide +kernel
theorem dX4_draw_83 : decode cX4_draw 83 = .ok (.iload_n 3, 1) := by decide +kernel
theorem dX4_draw_84 : decode cX4_draw 84 = .ok (.imul, 1) := by decide +kernel
theorem dX4_draw_85 : decode cX4_draw 85 = .ok (.iload_n 1, 1) := by decide +kernel
theorem dX4_draw_86 : decode cX4_draw 86 = .ok (.iastore, 1) := by decide +kernel
theorem dX4_draw_87 : decode cX4_draw 87 = .ok (.aload_n 0, 1) := by decide +kernel
theorem dX4_draw_88 : decode cX4_draw 88 = .ok (.getfield 26, 3) := by decide +kernel
theorem dX4_draw_91 : decode cX4_draw 91 = .ok (.iconst 4, 1) := by decide +kernel
theorem dX4_draw_92 : decode cX4_draw 92 = .ok (.iload_n 3, 1) := by decide +kernel
theorem dX4_draw_93 : decode cX4_draw 93 = .ok (.imul, 1) := by decide +kernel
theorem dX4_draw_94 : decode cX4_draw 94 = .ok (.iload_n 2, 1) := by decide +kernel
theorem dX4_draw_95 : decode cX4_draw 95 = .ok (.iastore, 1) := by decide +kernel
theorem dX4_draw_96 : decode cX4_draw 96 = .ok (.iload_n 3, 1) := by decide +kernel
theorem dX4_draw_97 : decode cX4_draw 97 = .ok (.ireturn, 1) := by decide +kernel
theorem dX4_hasLine_0 : decode cX4_hasLine 0 = .ok (.iconst 0, 1) := by decide +kernel
theorem dX4_hasLine_1 : decode cX4_hasLine 1 = .ok (.istore_n 3, 1) := by decide +kernel
theorem dX4_hasLine_2 : decode cX4_hasLine 2 = .ok (.iconst 0, 1) := by decide +kernel
theorem dX4_hasLine_3 : decode cX4_hasLine 3 = .ok (.istore 4, 2) := by decide +kernel
theorem dX4_hasLine_5 : decode cX4_hasLine 5 = .ok (.iload 4, 2) := by decide +kernel
theorem dX4_hasLine_7 : decode cX4_hasLine 7 = .ok (.aload_n 0, 1) := by decide +kernel
theorem dX4_hasLine_8 : decode cX4_hasLine 8 = .ok (.getfield 16, 3) := by decide +kernel
theorem dX4_hasLine_11 : decode cX4_hasLine 11 = .ok (.iload_n 1, 1) := by decide +kernel
theorem dX4_hasLine_12 : decode cX4_hasLine 12 = .ok (.iaload, 1) := by decide +kernel
theorem dX4_hasLine_13 : decode cX4_hasLine 13 = .ok (.if_icmp .ge 34, 3) := by decide +kernel
theorem dX4_hasLine_16 : decode cX4_hasLine 16 = .ok (.iload_n 3, 1) := by decide +kernel
theorem dX4_hasLine_17 : decode cX4_hasLine 17 = .ok (.ifCond .ne 18, 3) := by decide +kernel
theorem dX4_hasLine_20 : decode cX4_hasLine 20 = .ok (.aload_n 0, 1) := by decide +kernel
theorem dX4_hasLine_21 : decode cX4_hasLine 21 = .ok (.getfield 23, 3) := by decide +kernel
theorem dX4_hasLine_24 : decode cX4_hasLine 24 = .ok (.iconst 4, 1) := by decide +kernel
theorem dX4_hasLine_25 : decode cX4_hasLine 25 = .ok (.iload_n 1, 1) := by decide +kernel
theorem dX4_hasLine_26 : decode cX4_hasLine 26 = .ok (.imul, 1) := by decide +kernel
theorem dX4_hasLine_27 : decode cX4_hasLine 27 = .ok (.iload 4, 2) := by decide +kernel
theorem dX4_hasLine_29 : decode cX4_hasLine 29 = .ok (.iadd, 1) := by decide +kernel
theorem dX4_hasLine_30 : decode cX4_hasLine 30 = .ok (.iaload, 1) := by decide +kernel
theorem dX4_hasLine_31 : decode cX4_hasLine 31 = .ok (.iload_n 2, 1) := by decide +kernel
theorem dX4_hasLine_32 : decode cX4_hasLine 32 = .ok (.if_icmp .ne 7, 3) := by decide +kernel
theorem dX4_hasLine_35 : decode cX4_hasLine 35 = .ok (.iconst 1, 1) := by decide +kernel
theorem dX4_hasLine_36 : decode cX4_hasLine 36 = .ok (.goto 4, 3) := by decide +kernel
theorem dX4_hasLine_39 : decode cX4_hasLine 39 = .ok (.iconst 0, 1) := by decide +kernel
theorem dX4_hasLine_40 : decode cX4_hasLine 40 = .ok (.istore_n 3, 1) := by decide +kernel
theorem dX4_hasLine_41 : decode cX4_hasLine 41 = .ok (.iinc 4 1, 3) := by decide +kernel
theorem dX4_hasLine_44 : decode cX4_hasLine 44 = .ok (.goto (-39), 3) := by decide +kernel
theorem dX4_hasLine_47 : decode cX4_hasLine 47 = .ok (.iload_n 3, 1) := by decide +kernel
theorem dX4_hasLine_48 : decode cX4_hasLine 48 = .ok (.ireturn, 1) := by decide +kernel
theorem dX4_add_0 : decode cX4_add 0 = .ok (.aload_n 0, 1) := by decide +kernel
theorem dX4_add_1 : decode cX4_add 1 = .ok (.aload_n 0, 1) := by decide +kernel
theorem dX4_add_2 : decode cX4_add 2 = .ok (.iload_n 1, 1) := by decide +kernel
theorem dX4_add_3 : decode cX4_add 3 = .ok (.invokevirtual 79, 3) := by decide +kernel
theorem dX4_add_6 : decode cX4_add 6 = .ok (.ifCond .eq 10, 3) := by decide +kernel
theorem dX4_add_9 : decode cX4_add 9 = .ok (.iload_n 2, 1) := by decide +kernel
theorem dX4_add_10 : decode cX4_add 10 = .ok (.invokestatic 72, 3) := by decide +kernel
theorem dX4_add_13 : decode cX4_add 13 = .ok (.ifCond .ne 7, 3) := by decide +kernel
theorem dX4_add_16 : decode cX4_add 16 = .ok (.iconst 1, 1) := by decide +kernel
theorem dX4_add_17 : decode cX4_add 17 = .ok (.goto 4, 3) := by decide +kernel
theorem dX4_add_20 : decode cX4_add 20 = .ok (.iconst 0, 1) := by decide +kernel
theorem dX4_add_21 : decode cX4_add 21 = .ok (.putfield 65, 3) := by decide +kernel
theorem dX4_add_24 : decode cX4_add 24 = .ok (.aload_n 0, 1) := by decide +kernel
theorem dX4_add_25 : decode cX4_add 25 = .ok (.getfield 65, 3) := by decide +kernel
theorem dX4_add_28 : decode cX4_add 28 = .ok (.ifCond .ne 51, 3) := by decide +kernel
theorem dX4_add_31 : decode cX4_add 31 = .ok (.aload_n 0, 1) := by decide +kernel
theorem dX4_add_32 : decode cX4_add 32 = .ok (.iload_n 3, 1) := by decide +kernel
theorem dX4_add_33 : decode cX4_add 33 = .ok (.invokestatic 76, 3) := by decide +kernel
theorem dX4_add_36 : decode cX4_add 36 = .ok (.ifCond .eq 12, 3) := by decide +kernel
theorem dX4_add_39 : decode cX4_add 39 = .ok (.aload_n 0, 1) := by decide +kernel
theorem dX4_add_40 : decode cX4_add 40 = .ok (.iload_n 1, 1) := by decide +kernel
theorem dX4_add_41 : decode cX4_add 41 = .ok (.iload_n 2, 1) := by decide +kernel
theorem dX4_add_42 : decode cX4_add 42 = .ok (.invokevirtual 82, 3) := by decide +kernel
theorem dX4_add_45 : decode cX4_add 45 = .ok (.ifCond .eq 7, 3) := by decide +kernel
theorem dX4_add_48 : decode cX4_add 48 = .ok (.iconst 2, 1) := by decide +kernel
theorem dX4_add_49 : decode cX4_add 49 = .ok (.goto 27, 3) := by decide +kernel
theorem dX4_add_52 : decode cX4_add 52 = .ok (.aload_n 0, 1) := by decide +kernel
theorem dX4_add_53 : decode cX4_add 53 = .ok (.getfield 20, 3) := by decide +kernel
theorem dX4_add_56 : decode cX4_add 56 = .ok (.iload_n 1, 1) := by decide +kernel
theorem dX4_add_57 : decode cX4_add 57 = .ok (.iaload, 1) := by decide +kernel
theorem dX4_add_58 : decode cX4_add 58 = .ok (.ifCond .ge 13, 3) := by decide +kernel
theorem dX4_add_61 : decode cX4_add 61 = .ok (.aload_n 0, 1) := by decide +kernel
theorem dX4_add_62 : decode cX4_add 62 = .ok (.getfield 16, 3) := by decide +kernel
theorem dX4_add_65 : decode cX4_add 65 = .ok (.iload_n 1, 1) := by decide +kernel
theorem dX4_add_66 : decode cX4_add 66 = .ok (.iaload, 1) := by decide +kernel
theorem dX4_add_67 : decode cX4_add 67 = .ok (.iconst 4, 1) := by decide +kernel
theorem dX4_add_68 : decode cX4_add 68 = .ok (.if_icmp .ne 7, 3) := by decide +kernel
theorem dX4_add_71 : decode cX4_add 71 = .ok (.iconst 3, 1) := by decide +kernel
theorem dX4_add_72 : decode cX4_add 72 = .ok (.goto 4, 3) := by decide +kernel
theorem dX4_add_75 : decode cX4_add 75 = .ok (.iconst 0, 1) := by decide +kernel
theorem dX4_add_76 : decode cX4_add 76 = .ok (.putfield 65, 3) := by decide +kernel
theorem dX4_add_79 : decode cX4_add 79 = .ok (.aload_n 0, 1) := by decide +kernel
theorem dX4_add_80 : decode cX4_add 80 = .ok (.getfield 65, 3) := by decide +kernel
theorem dX4_add_83 : decode cX4_add 83 = .ok (.ifCond .le 5, 3) := by decide +kernel
theorem dX4_add_86 : decode cX4_add 86 = .ok (.iconst 0, 1) := by decide +kernel
theorem dX4_add_87 : decode cX4_add 87 = .ok (.ireturn, 1) := by decide +kernel
theorem dX4_add_88 : decode cX4_add 88 = .ok (.aload_n 0, 1) := by decide +kernel
theorem dX4_add_89 : decode cX4_add 89 = .ok (.getfield 23, 3) := by decide +kernel
theorem dX4_add_92 : decode cX4_add 92 = .ok (.iconst 4, 1) := by decide +kernel
theorem dX4_add_93 : decode cX4_add 93 = .ok (.iload_n 1, 1) := by decide +kernel
theorem dX4_add_94 : decode cX4_add 94 = .ok (.imul, 1) := by decide +kernel
theorem dX4_add_95 : decode cX4_add 95 = .ok (.aload_n 0, 1) := by decide +kernel
theorem dX4_add_96 : decode cX4_add 96 = .ok (.getfield 16, 3) := by decide +kernel
theorem dX4_add_99 : decode cX4_add 99 = .ok (.iload_n 1, 1) := by decide +kernel
theorem dX4_add_100 : decode cX4_add 100 = .ok (.iaload, 1) := by decide +kernel
theorem dX4_add_101 : decode cX4_add 101 = .ok (.iadd, 1) := by decide +kernel
theorem dX4_add_102 : decode cX4_add 102 = .ok (.iload_n 2, 1) := by decide +kernel
theorem dX4_add_103 : decode cX4_add 103 = .ok (.iastore, 1) := by decide +kernel
theorem dX4_add_104 : decode cX4_add 104 = .ok (.aload_n 0, 1) := by decide +kernel
theorem dX4_add_105 : decode cX4_add 105 = .ok (.getfield 26, 3) := by decide +kernel
theorem dX4_add_108 : decode cX4_add 108 = .ok (.iconst 4, 1) := by decide +kernel
theorem dX4_add_109 : decode cX4_add 109 = .ok (.iload_n 1, 1) := by decide +kernel
theorem dX4_add_110 : decode cX4_add 110 = .ok (.imul, 1) := by decide +kernel
theorem dX4_add_111 : decode cX4_add 111 = .ok (.aload_n 0, 1) := by decide +kernel
theorem dX4_add_112 : decode cX4_add 112 = .ok (.getfield 16, 3) := by decide +kernel
theorem dX4_add_115 : decode cX4_add 115 = .ok (.iload_n 1, 1) := by decide +kernel
theorem dX4_add_116 : decode cX4_add 116 = .ok (.iaload, 1) := by decide +kernel
theorem dX4_add_117 : decode cX4_add 117 = .ok (.iadd, 1) := by decide +kernel
theorem dX4_add_118 : decode cX4_add 118 = .ok (.iload_n 3, 1) := by decide +kernel
theorem dX4_add_119 : decode cX4_add 119 = .ok (.iastore, 1) := by decide +kernel
theorem dX4_add_120 : decode cX4_add 120 = .ok (.aload_n 0, 1) := by decide +kernel
theorem dX4_add_121 : decode cX4_add 121 = .ok (.getfield 16, 3) := by decide +kernel
theorem dX4_add_124 : decode cX4_add 124 = .ok (.iload_n 1, 1) := by decide +kernel
theorem dX4_add_125 : decode cX4_add 125 = .ok (.dup2, 1) := by decide +kernel
theorem dX4_add_126 : decode cX4_add 126 = .ok (.iaload, 1) := by decide +kernel
theorem dX4_add_127 : decode cX4_add 127 = .ok (.iconst 1, 1) := by decide +kernel
theorem dX4_add_128 : decode cX4_add 128 = .ok (.iadd, 1) := by decide +kernel
theorem dX4_add_129 : decode cX4_add 129 = .ok (.iastore, 1) := by decide +kernel
theorem dX4_add_130 : decode cX4_add 130 = .ok (.aload_n 0, 1) := by decide +kernel
theorem dX4_add_131 : decode cX4_add 131 = .ok (.getfield 16, 3) := by decide +kernel
theorem dX4_add_134 : decode cX4_add 134 = .ok (.iload_n 1, 1) := by decide +kernel
theorem dX4_add_135 : decode cX4_add 135 = .ok (.iaload, 1) := by decide +kernel
theorem dX4_add_136 : decode cX4_add 136 = .ok (.ireturn, 1) := by decide +kernel
theorem dX4_allShares_0 : decode cX4_allShares 0 = .ok (.iconst 0, 1) := by decide +kernel
theorem dX4_allShares_1 : decode cX4_allShares 1 = .ok (.istore_n 2, 1) := by decide +kernel
theorem dX4_allShares_2 : decode cX4_allShares 2 = .ok (.iconst 0, 1) := by decide +kernel
theorem dX4_allShares_3 : decode cX4_allShares 3 = .ok (.istore_n 3, 1) := by decide +kernel
theorem dX4_allShares_4 : decode cX4_allShares 4 = .ok (.iload_n 3, 1) := by decide +kernel
theorem dX4_allShares_5 : decode cX4_allShares 5 = .ok (.aload_n 0, 1) := by decide +kernel
theorem dX4_allShares_6 : decode cX4_allShares 6 = .ok (.getfield 16, 3) := by decide +kernel
theorem dX4_allShares_9 : decode cX4_allShares 9 = .ok (.iload_n 1, 1) := by decide +kernel
theorem dX4_allShares_10 : decode cX4_allShares 10 = .ok (.iaload, 1) := by decide +kernel
theorem dX4_allShares_11 : decode cX4_allShares 11 = .ok (.if_icmp .ge 22, 3) := by decide +kernel
theorem dX4_allShares_14 : decode cX4_allShares 14 = .ok (.iload_n 2, 1) := by decide +kernel
theorem dX4_allShares_15 : decode cX4_allShares 15 = .ok (.aload_n 0, 1) := by decide +kernel
theorem dX4_allShares_16 : decode cX4_allShares 16 = .ok (.getfield 26, 3) := by decide +kernel
theorem dX4_allShares_19 : decode cX4_allShares 19 = .ok (.iconst 4, 1) := by decide +kernel
theorem dX4_allShares_20 : decode cX4_allShares 20 = .ok (.iload_n 1, 1) := by decide +kernel
theorem dX4_allShares_21 : decode cX4_allShares 21 = .ok (.imul, 1) := by decide +kernel
theorem dX4_allShares_22 : decode cX4_allShares 22 = .ok (.iload_n 3, 1) := by decide +kernel
theorem dX4_allShares_23 : decode cX4_allShares 23 = .ok (.iadd, 1) := by decide +kernel
theorem dX4_allShares_24 : decode cX4_allShares 24 = .ok (.iaload, 1) := by decide +kernel
theorem dX4_allShares_25 : decode cX4_allShares 25 = .ok (.iadd, 1) := by decide +kernel
theorem dX4_allShares_26 : decode cX4_allShares 26 = .ok (.istore_n 2, 1) := by decide +kernel
theorem dX4_allShares_27 : decode cX4_allShares 27 = .ok (.iinc 3 1, 3) := by decide +kernel
theorem dX4_allShares_30 : decode cX4_allShares 30 = .ok (.goto (-26), 3) := by decide +kernel
theorem dX4_allShares_33 : decode cX4_allShares 33 = .ok (.iload_n 2, 1) := by decide +kernel
theorem dX4_allShares_34 : decode cX4_allShares 34 = .ok (.ireturn, 1) := by decide +kernel
theorem dX4_certify_0 : decode cX4_certify 0 = .ok (.aload_n 0, 1) := by decide +kernel
theorem dX4_certify_1 : decode cX4_certify 1 = .ok (.iload_n 1, 1) := by decide +kernel
theorem dX4_certify_2 : decode cX4_certify 2 = .ok (.invokestatic 72, 3) := by decide +kernel
theorem dX4_certify_5 : decode cX4_certify 5 = .ok (.ifCond .eq 11, 3) := by decide +kernel
theorem dX4_certify_8 : decode cX4_certify 8 = .ok (.aload_n 0, 1) := by decide +kernel
theorem dX4_certify_9 : decode cX4_certify 9 = .ok (.iload_n 2, 1) := by decide +kernel
theorem dX4_certify_10 : decode cX4_certify 10 = .ok (.invokevirtual 79, 3) := by decide +kernel
theorem dX4_certify_13 : decode cX4_certify 13 = .ok (.ifCond .ne 7, 3) := by decide +kernel
theorem dX4_certify_16 : decode cX4_certify 16 = .ok (.iconst 1, 1) := by decide +kernel
theorem dX4_certify_17 : decode cX4_certify 17 = .ok (.goto 15, 3) := by decide +kernel
theorem dX4_certify_20 : decode cX4_certify 20 = .ok (.iload_n 1, 1) := by decide +kernel
theorem dX4_certify_21 : decode cX4_certify 21 = .ok (.invokestatic 86, 3) := by decide +kernel
theorem dX4_certify_24 : decode cX4_certify 24 = .ok (.ifCond .ne 7, 3) := by decide +kernel
theorem dX4_certify_27 : decode cX4_certify 27 = .ok (.iconst 2, 1) := by decide +kernel
theorem dX4_certify_28 : decode cX4_certify 28 = .ok (.goto 4, 3) := by decide +kernel
theorem dX4_certify_31 : decode cX4_certify 31 = .ok (.iconst 0, 1) := by decide +kernel
theorem dX4_certify_32 : decode cX4_certify 32 = .ok (.putfield 65, 3) := by decide +kernel
theorem dX4_certify_35 : decode cX4_certify 35 = .ok (.aload_n 0, 1) := by decide +kernel
theorem dX4_certify_36 : decode cX4_certify 36 = .ok (.getfield 65, 3) := by decide +kernel
theorem dX4_certify_39 : decode cX4_certify 39 = .ok (.ifCond .ne 39, 3) := by decide +kernel
theorem dX4_certify_42 : decode cX4_certify 42 = .ok (.aload_n 0, 1) := by decide +kernel
theorem dX4_certify_43 : decode cX4_certify 43 = .ok (.aload_n 0, 1) := by decide +kernel
theorem dX4_certify_44 : decode cX4_certify 44 = .ok (.getfield 20, 3) := by decide +kernel
theorem dX4_certify_47 : decode cX4_certify 47 = .ok (.iload_n 2, 1) := by decide +kernel
theorem dX4_certify_48 : decode cX4_certify 48 = .ok (.iaload, 1) := by decide +kernel
theorem dX4_certify_49 : decode cX4_certify 49 = .ok (.ifCond .ge 21, 3) := by decide +kernel
theorem dX4_certify_52 : decode cX4_certify 52 = .ok (.aload_n 0, 1) := by decide +kernel
theorem dX4_certify_53 : decode cX4_certify 53 = .ok (.getfield 16, 3) := by decide +kernel
theorem dX4_certify_56 : decode cX4_certify 56 = .ok (.iload_n 2, 1) := by decide +kernel
theorem dX4_certify_57 : decode cX4_certify 57 = .ok (.iaload, 1) := by decide +kernel
theorem dX4_certify_58 : decode cX4_certify 58 = .ok (.iconst 1, 1) := by decide +kernel
theorem dX4_certify_59 : decode cX4_certify 59 = .ok (.if_icmp .eq 11, 3) := by decide +kernel
theorem dX4_certify_62 : decode cX4_certify 62 = .ok (.aload_n 0, 1) := by decide +kernel
theorem dX4_certify_63 : decode cX4_certify 63 = .ok (.iload_n 2, 1) := by decide +kernel
theorem dX4_certify_64 : decode cX4_certify 64 = .ok (.invokevirtual 89, 3) := by decide +kernel
theorem dX4_certify_67 : decode cX4_certify 67 = .ok (.ifCond .eq 7, 3) := by decide +kernel
theorem dX4_certify_70 : decode cX4_certify 70 = .ok (.iconst 3, 1) := by decide +kernel
theorem dX4_certify_71 : decode cX4_certify 71 = .ok (.goto 4, 3) := by decide +kernel
theorem dX4_certify_74 : decode cX4_certify 74 = .ok (.iconst 0, 1) := by decide +kernel
theorem dX4_certify_75 : decode cX4_certify 75 = .ok (.putfield 65, 3) := by decide +kernel
theorem dX4_certify_78 : decode cX4_certify 78 = .ok (.aload_n 0, 1) := by decide +kernel
theorem dX4_certify_79 : decode cX4_certify 79 = .ok (.getfield 65, 3) := by decide +kernel
theorem dX4_certify_82 : decode cX4_certify 82 = .ok (.ifCond .ne 10, 3) := by decide +kernel
theorem dX4_certify_85 : decode cX4_certify 85 = .ok (.aload_n 0, 1) := by decide +kernel
theorem dX4_certify_86 : decode cX4_certify 86 = .ok (.getfield 20, 3) := by decide +kernel
theorem dX4_certify_89 : decode cX4_certify 89 = .ok (.iload_n 2, 1) := by decide +kernel
theorem dX4_certify_90 : decode cX4_certify 90 = .ok (.iload_n 1, 1) := by decide +kernel
theorem dX4_certify_91 : decode cX4_certify 91 = .ok (.iastore, 1) := by decide +kernel
theorem dX4_certify_92 : decode cX4_certify 92 = .ok (.return_, 1) := by decide +kernel
theorem dX4_grant_0 : decode cX4_grant 0 = .ok (.aload_n 0, 1) := by decide +kernel
theorem dX4_grant_1 : decode cX4_grant 1 = .ok (.iload_n 1, 1) := by decide +kernel
theorem dX4_grant_2 : decode cX4_grant 2 = .ok (.invokestatic 72, 3) := by decide +kernel
theorem dX4_grant_5 : decode cX4_grant 5 = .ok (.ifCond .eq 18, 3) := by decide +kernel
theorem dX4_grant_8 : decode cX4_grant 8 = .ok (.iload_n 2, 1) := by decide +kernel
theorem dX4_grant_9 : decode cX4_grant 9 = .ok (.invokestatic 72, 3) := by decide +kernel
theorem dX4_grant_12 : decode cX4_grant 12 = .ok (.ifCond .eq 11, 3) := by decide +kernel
theorem dX4_grant_15 : decode cX4_grant 15 = .ok (.aload_n 0, 1) := by decide +kernel
theorem dX4_grant_16 : decode cX4_grant 16 = .ok (.iload_n 3, 1) := by decide +kernel
theorem dX4_grant_17 : decode cX4_grant 17 = .ok (.invokevirtual 79, 3) := by decide +kernel
theorem dX4_grant_20 : decode cX4_grant 20 = .ok (.ifCond .ne 7, 3) := by decide +kernel
theorem dX4_grant_23 : decode cX4_grant 23 = .ok (.iconst 1, 1) := by decide +kernel
theorem dX4_grant_24 : decode cX4_grant 24 = .ok (.goto 20, 3) := by decide +kernel
theorem dX4_grant_27 : decode cX4_grant 27 = .ok (.iload_n 1, 1) := by decide +kernel
theorem dX4_grant_28 : decode cX4_grant 28 = .ok (.invokestatic 86, 3) := by decide +kernel
theorem dX4_grant_31 : decode cX4_grant 31 = .ok (.ifCond .eq 8, 3) := by decide +kernel
theorem dX4_grant_34 : decode cX4_grant 34 = .ok (.iload_n 1, 1) := by decide +kernel
theorem dX4_grant_35 : decode cX4_grant 35 = .ok (.iload_n 2, 1) := by decide +kernel
theorem dX4_grant_36 : decode cX4_grant 36 = .ok (.if_icmp .ne 7, 3) := by decide +kernel
theorem dX4_grant_39 : decode cX4_grant 39 = .ok (.iconst 2, 1) := by decide +kernel
theorem dX4_grant_40 : decode cX4_grant 40 = .ok (.goto 4, 3) := by decide +kernel
theorem dX4_grant_43 : decode cX4_grant 43 = .ok (.iconst 0, 1) := by decide +kernel
theorem dX4_grant_44 : decode cX4_grant 44 = .ok (.putfield 65, 3) := by decide +kernel
theorem dX4_grant_47 : decode cX4_grant 47 = .ok (.aload_n 0, 1) := by decide +kernel
theorem dX4_grant_48 : decode cX4_grant 48 = .ok (.getfield 65, 3) := by decide +kernel
theorem dX4_grant_51 : decode cX4_grant 51 = .ok (.ifCond .le 5, 3) := by decide +kernel
theorem dX4_grant_54 : decode cX4_grant 54 = .ok (.iconst 0, 1) := by decide +kernel
theorem dX4_grant_55 : decode cX4_grant 55 = .ok (.ireturn, 1) := by decide +kernel
theorem dX4_grant_56 : decode cX4_grant 56 = .ok (.aload_n 0, 1) := by decide +kernel
theorem dX4_grant_57 : decode cX4_grant 57 = .ok (.getfield 29, 3) := by decide +kernel
theorem dX4_grant_60 : decode cX4_grant 60 = .ok (.bipush 8, 2) := by decide +kernel
theorem dX4_grant_62 : decode cX4_grant 62 = .ok (.iload_n 3, 1) := by decide +kernel
theorem dX4_grant_63 : decode cX4_grant 63 = .ok (.imul, 1) := by decide +kernel
theorem dX4_grant_64 : decode cX4_grant 64 = .ok (.iload_n 2, 1) := by decide +kernel
theorem dX4_grant_65 : decode cX4_grant 65 = .ok (.iadd, 1) := by decide +kernel
theorem dX4_grant_66 : decode cX4_grant 66 = .ok (.baload, 1) := by decide +kernel
theorem dX4_grant_67 : decode cX4_grant 67 = .ok (.istore 5, 2) := by decide +kernel
theorem dX4_grant_69 : decode cX4_grant 69 = .ok (.aload_n 0, 1) := by decide +kernel
theorem dX4_grant_70 : decode cX4_grant 70 = .ok (.getfield 29, 3) := by decide +kernel
theorem dX4_grant_73 : decode cX4_grant 73 = .ok (.bipush 8, 2) := by decide +kernel
theorem dX4_grant_75 : decode cX4_grant 75 = .ok (.iload_n 3, 1) := by decide +kernel
theorem dX4_grant_76 : decode cX4_grant 76 = .ok (.imul, 1) := by decide +kernel
theorem dX4_grant_77 : decode cX4_grant 77 = .ok (.iload_n 2, 1) := by decide +kernel
theorem dX4_grant_78 : decode cX4_grant 78 = .ok (.iadd, 1) := by decide +kernel
theorem dX4_grant_79 : decode cX4_grant 79 = .ok (.iload 4, 2) := by decide +kernel
theorem dX4_grant_81 : decode cX4_grant 81 = .ok (.bastore, 1) := by decide +kernel
theorem dX4_grant_82 : decode cX4_grant 82 = .ok (.iload 5, 2) := by decide +kernel
theorem dX4_grant_84 : decode cX4_grant 84 = .ok (.iload 4, 2) := by decide +kernel
theorem dX4_grant_86 : decode cX4_grant 86 = .ok (.if_icmp .eq 7, 3) := by decide +kernel
theorem dX4_grant_89 : decode cX4_grant 89 = .ok (.iconst 1, 1) := by decide +kernel
theorem dX4_grant_90 : decode cX4_grant 90 = .ok (.goto 4, 3) := by decide +kernel
theorem dX4_grant_93 : decode cX4_grant 93 = .ok (.iconst 0, 1) := by decide +kernel
theorem dX4_grant_94 : decode cX4_grant 94 = .ok (.ireturn, 1) := by decide +kernel
theorem dX4_may_0 : decode cX4_may 0 = .ok (.aload_n 0, 1) := by decide +kernel
theorem dX4_may_1 : decode cX4_may 1 = .ok (.getfield 20, 3) := by decide +kernel
theorem dX4_may_4 : decode cX4_may 4 = .ok (.iload_n 2, 1) := by decide +kernel
theorem dX4_may_5 : decode cX4_may 5 = .ok (.iaload, 1) := by decide +kernel
theorem dX4_may_6 : decode cX4_may 6 = .ok (.ifCond .lt 31, 3) := by decide +kernel
theorem dX4_may_9 : decode cX4_may 9 = .ok (.aload_n 0, 1) := by decide +kernel
theorem dX4_may_10 : decode cX4_may 10 = .ok (.getfield 20, 3) := by decide +kernel
theorem dX4_may_13 : decode cX4_may 13 = .ok (.iload_n 2, 1) := by decide +kernel
theorem dX4_may_14 : decode cX4_may 14 = .ok (.iaload, 1) := by decide +kernel
theorem dX4_may_15 : decode cX4_may 15 = .ok (.iload_n 1, 1) := by decide +kernel
theorem dX4_may_16 : decode cX4_may 16 = .ok (.if_icmp .eq 21, 3) := by decide +kernel
theorem dX4_may_19 : decode cX4_may 19 = .ok (.aload_n 0, 1) := by decide +kernel
theorem dX4_may_20 : decode cX4_may 20 = .ok (.getfield 29, 3) := by decide +kernel
theorem dX4_may_23 : decode cX4_may 23 = .ok (.bipush 8, 2) := by decide +kernel
theorem dX4_may_25 : decode cX4_may 25 = .ok (.iload_n 2, 1) := by decide +kernel
theorem dX4_may_26 : decode cX4_may 26 = .ok (.imul, 1) := by decide +kernel
theorem dX4_may_27 : decode cX4_may 27 = .ok (.iload_n 1, 1) := by decide +kernel
theorem dX4_may_28 : decode cX4_may 28 = .ok (.iadd, 1) := by decide +kernel
theorem dX4_may_29 : decode cX4_may 29 = .ok (.baload, 1) := by decide +kernel
theorem dX4_may_30 : decode cX4_may 30 = .ok (.ifCond .eq 7, 3) := by decide +kernel
theorem dX4_may_33 : decode cX4_may 33 = .ok (.iconst 1, 1) := by decide +kernel
theorem dX4_may_34 : decode cX4_may 34 = .ok (.goto 4, 3) := by decide +kernel
theorem dX4_may_37 : decode cX4_may 37 = .ok (.iconst 0, 1) := by decide +kernel
theorem dX4_may_38 : decode cX4_may 38 = .ok (.ireturn, 1) := by decide +kernel
theorem dX4_mayRun_0 : decode cX4_mayRun 0 = .ok (.aload_n 0, 1) := by decide +kernel
theorem dX4_mayRun_1 : decode cX4_mayRun 1 = .ok (.iconst 0, 1) := by decide +kernel
theorem dX4_mayRun_2 : decode cX4_mayRun 2 = .ok (.putfield 65, 3) := by decide +kernel
theorem dX4_mayRun_5 : decode cX4_mayRun 5 = .ok (.iload_n 1, 1) := by decide +kernel
theorem dX4_mayRun_6 : decode cX4_mayRun 6 = .ok (.invokestatic 72, 3) := by decide +kernel
theorem dX4_mayRun_9 : decode cX4_mayRun 9 = .ok (.ifCond .eq 24, 3) := by decide +kernel
theorem dX4_mayRun_12 : decode cX4_mayRun 12 = .ok (.aload_n 0, 1) := by decide +kernel
theorem dX4_mayRun_13 : decode cX4_mayRun 13 = .ok (.iload_n 2, 1) := by decide +kernel
theorem dX4_mayRun_14 : decode cX4_mayRun 14 = .ok (.invokevirtual 79, 3) := by decide +kernel
theorem dX4_mayRun_17 : decode cX4_mayRun 17 = .ok (.ifCond .eq 16, 3) := by decide +kernel
theorem dX4_mayRun_20 : decode cX4_mayRun 20 = .ok (.aload_n 0, 1) := by decide +kernel
theorem dX4_mayRun_21 : decode cX4_mayRun 21 = .ok (.iload_n 1, 1) := by decide +kernel
theorem dX4_mayRun_22 : decode cX4_mayRun 22 = .ok (.iload_n 2, 1) := by decide +kernel
theorem dX4_mayRun_23 : decode cX4_mayRun 23 = .ok (.invokevirtual 93, 3) := by decide +kernel
theorem dX4_mayRun_26 : decode cX4_mayRun 26 = .ok (.ifCond .eq 7, 3) := by decide +kernel
theorem dX4_mayRun_29 : decode cX4_mayRun 29 = .ok (.iconst 1, 1) := by decide +kernel
theorem dX4_mayRun_30 : decode cX4_mayRun 30 = .ok (.goto 4, 3) := by decide +kernel
theorem dX4_mayRun_33 : decode cX4_mayRun 33 = .ok (.iconst 0, 1) := by decide +kernel
theorem dX4_mayRun_34 : decode cX4_mayRun 34 = .ok (.ireturn, 1) := by decide +kernel
theorem dX4_floor_0 : decode cX4_floor 0 = .ok (.aload_n 0, 1) := by decide +kernel
theorem dX4_floor_1 : decode cX4_floor 1 = .ok (.iload_n 1, 1) := by decide +kernel
theorem dX4_floor_2 : decode cX4_floor 2 = .ok (.invokestatic 72, 3) := by decide +kernel
theorem dX4_floor_5 : decode cX4_floor 5 = .ok (.ifCond .eq 10, 3) := by decide +kernel
theorem dX4_floor_8 : decode cX4_floor 8 = .ok (.iload_n 2, 1) := by decide +kernel
theorem dX4_floor_9 : decode cX4_floor 9 = .ok (.invokestatic 72, 3) := by decide +kernel
theorem dX4_floor_12 : decode cX4_floor 12 = .ok (.ifCond .ne 7, 3) := by decide +kernel
theorem dX4_floor_15 : decode cX4_floor 15 = .ok (.iconst 1, 1) := by decide +kernel
theorem dX4_floor_16 : decode cX4_floor 16 = .ok (.goto 35, 3) := by decide +kernel
theorem dX4_floor_19 : decode cX4_floor 19 = .ok (.iload_n 1, 1) := by decide +kernel
theorem dX4_floor_20 : decode cX4_floor 20 = .ok (.invokestatic 86, 3) := by decide +kernel
theorem dX4_floor_23 : decode cX4_floor 23 = .ok (.ifCond .ne 7, 3) := by decide +kernel
theorem dX4_floor_26 : decode cX4_floor 26 = .ok (.iconst 2, 1) := by decide +kernel
theorem dX4_floor_27 : decode cX4_floor 27 = .ok (.goto 24, 3) := by decide +kernel
theorem dX4_floor_30 : decode cX4_floor 30 = .ok (.lload_n 3, 1) := by decide +kernel
theorem dX4_floor_31 : decode cX4_floor 31 = .ok (.ldc2_w 63, 3) := by decide +kernel
theorem dX4_floor_34 : decode cX4_floor 34 = .ok (.lcmp, 1) := by decide +kernel
theorem dX4_floor_35 : decode cX4_floor 35 = .ok (.ifCond .lt 11, 3) := by decide +kernel
theorem dX4_floor_38 : decode cX4_floor 38 = .ok (.lload_n 3, 1) := by decide +kernel
theorem dX4_floor_39 : decode cX4_floor 39 = .ok (.ldc2_w 96, 3) := by decide +kernel
theorem dX4_floor_42 : decode cX4_floor 42 = .ok (.lcmp, 1) := by decide +kernel
theorem dX4_floor_43 : decode cX4_floor 43 = .ok (.ifCond .le 7, 3) := by decide +kernel
theorem dX4_floor_46 : decode cX4_floor 46 = .ok (.iconst 3, 1) := by decide +kernel
theorem dX4_floor_47 : decode cX4_floor 47 = .ok (.goto 4, 3) := by decide +kernel
theorem dX4_floor_50 : decode cX4_floor 50 = .ok (.iconst 0, 1) := by decide +kernel
theorem dX4_floor_51 : decode cX4_floor 51 = .ok (.putfield 65, 3) := by decide +kernel
theorem dX4_floor_54 : decode cX4_floor 54 = .ok (.aload_n 0, 1) := by decide +kernel
theorem dX4_floor_55 : decode cX4_floor 55 = .ok (.getfield 65, 3) := by decide +kernel
theorem dX4_floor_58 : decode cX4_floor 58 = .ok (.ifCond .le 5, 3) := by decide +kernel
theorem dX4_floor_61 : decode cX4_floor 61 = .ok (.lconst 0, 1) := by decide +kernel
theorem dX4_floor_62 : decode cX4_floor 62 = .ok (.lreturn, 1) := by decide +kernel
theorem dX4_floor_63 : decode cX4_floor 63 = .ok (.aload_n 0, 1) := by decide +kernel
theorem dX4_floor_64 : decode cX4_floor 64 = .ok (.getfield 13, 3) := by decide +kernel
theorem dX4_floor_67 : decode cX4_floor 67 = .ok (.iload_n 2, 1) := by decide +kernel
theorem dX4_floor_68 : decode cX4_floor 68 = .ok (.laload, 1) := by decide +kernel
theorem dX4_floor_69 : decode cX4_floor 69 = .ok (.lstore 5, 2) := by decide +kernel
theorem dX4_floor_71 : decode cX4_floor 71 = .ok (.aload_n 0, 1) := by decide +kernel
theorem dX4_floor_72 : decode cX4_floor 72 = .ok (.getfield 13, 3) := by decide +kernel
theorem dX4_floor_75 : decode cX4_floor 75 = .ok (.iload_n 2, 1) := by decide +kernel
theorem dX4_floor_76 : decode cX4_floor 76 = .ok (.lload_n 3, 1) := by decide +kernel
theorem dX4_floor_77 : decode cX4_floor 77 = .ok (.lastore, 1) := by decide +kernel
theorem dX4_floor_78 : decode cX4_floor 78 = .ok (.lload 5, 2) := by decide +kernel
theorem dX4_floor_80 : decode cX4_floor 80 = .ok (.lreturn, 1) := by decide +kernel
theorem dX4_findPosts_0 : decode cX4_findPosts 0 = .ok (.lconst 0, 1) := by decide +kernel
theorem dX4_findPosts_1 : decode cX4_findPosts 1 = .ok (.lstore 4, 2) := by decide +kernel
theorem dX4_findPosts_3 : decode cX4_findPosts 3 = .ok (.iconst 0, 1) := by decide +kernel
theorem dX4_findPosts_4 : decode cX4_findPosts 4 = .ok (.istore 6, 2) := by decide +kernel
theorem dX4_findPosts_6 : decode cX4_findPosts 6 = .ok (.iload 6, 2) := by decide +kernel
theorem dX4_findPosts_8 : decode cX4_findPosts 8 = .ok (.aload_n 0, 1) := by decide +kernel
theorem dX4_findPosts_9 : decode cX4_findPosts 9 = .ok (.getfield 16, 3) := by decide +kernel
theorem dX4_findPosts_12 : decode cX4_findPosts 12 = .ok (.iload_n 1, 1) := by decide +kernel
theorem dX4_findPosts_13 : decode cX4_findPosts 13 = .ok (.iaload, 1) := by decide +kernel
theorem dX4_findPosts_14 : decode cX4_findPosts 14 = .ok (.if_icmp .ge 65, 3) := by decide +kernel
theorem dX4_findPosts_17 : decode cX4_findPosts 17 = .ok (.aload_n 0, 1) := by decide +kernel
theorem dX4_findPosts_18 : decode cX4_findPosts 18 = .ok (.getfield 60, 3) := by decide +kernel
theorem dX4_findPosts_21 : decode cX4_findPosts 21 = .ok (.iload 6, 2) := by decide +kernel
theorem dX4_findPosts_23 : decode cX4_findPosts 23 = .ok (.iload 6, 2) := by decide +kernel
theorem dX4_findPosts_25 : decode cX4_findPosts 25 = .ok (.aload_n 0, 1) := by decide +kernel
theorem dX4_findPosts_26 : decode cX4_findPosts 26 = .ok (.getfield 16, 3) := by decide +kernel
theorem dX4_findPosts_29 : decode cX4_findPosts 29 = .ok (.iload_n 1, 1) := by decide +kernel
theorem dX4_findPosts_30 : decode cX4_findPosts 30 = .ok (.iaload, 1) := by decide +kernel
theorem dX4_findPosts_31 : decode cX4_findPosts 31 = .ok (.iconst 1, 1) := by decide +kernel
theorem dX4_findPosts_32 : decode cX4_findPosts 32 = .ok (.isub, 1) := by decide +kernel
theorem dX4_findPosts_33 : decode cX4_findPosts 33 = .ok (.if_icmp .ne 9, 3) := by decide +kernel
theorem dX4_findPosts_36 : decode cX4_findPosts 36 = .ok (.lload 4, 2) := by decide +kernel
theorem dX4_findPosts_38 : decode cX4_findPosts 38 = .ok (.lneg, 1) := by decide +kernel
theorem dX4_findPosts_39 : decode cX4_findPosts 39 = .ok (.goto 21, 3) := by decide +kernel
theorem dX4_findPosts_42 : decode cX4_findPosts 42 = .ok (.lload_n 2, 1) := by decide +kernel
theorem dX4_findPosts_43 : decode cX4_findPosts 43 = .ok (.aload_n 0, 1) := by decide +kernel
theorem dX4_findPosts_44 : decode cX4_findPosts 44 = .ok (.getfield 26, 3) := by decide +kernel
theorem dX4_findPosts_47 : decode cX4_findPosts 47 = .ok (.iconst 4, 1) := by decide +kernel
theorem dX4_findPosts_48 : decode cX4_findPosts 48 = .ok (.iload_n 1, 1) := by decide +kernel
theorem dX4_findPosts_49 : decode cX4_findPosts 49 = .ok (.imul, 1) := by decide +kernel
theorem dX4_findPosts_50 : decode cX4_findPosts 50 = .ok (.iload 6, 2) := by decide +kernel
theorem dX4_findPosts_52 : decode cX4_findPosts 52 = .ok (.iadd, 1) := by decide +kernel
theorem dX4_findPosts_53 : decode cX4_findPosts 53 = .ok (.iaload, 1) := by decide +kernel
theorem dX4_findPosts_54 : decode cX4_findPosts 54 = .ok (.i2l, 1) := by decide +kernel
theorem dX4_findPosts_55 : decode cX4_findPosts 55 = .ok (.lmul, 1) := by decide +kernel
theorem dX4_findPosts_56 : decode cX4_findPosts 56 = .ok (.ldc2_w 98, 3) := by decide +kernel
theorem dX4_findPosts_59 : decode cX4_findPosts 59 = .ok (.ldiv, 1) := by decide +kernel
theorem dX4_findPosts_60 : decode cX4_findPosts 60 = .ok (.lastore, 1) := by decide +kernel
theorem dX4_findPosts_61 : decode cX4_findPosts 61 = .ok (.lload 4, 2) := by decide +kernel
theorem dX4_findPosts_63 : decode cX4_findPosts 63 = .ok (.aload_n 0, 1) := by decide +kernel
theorem dX4_findPosts_64 : decode cX4_findPosts 64 = .ok (.getfield 60, 3) := by decide +kernel
theorem dX4_findPosts_67 : decode cX4_findPosts 67 = .ok (.iload 6, 2) := by decide +kernel
theorem dX4_findPosts_69 : decode cX4_findPosts 69 = .ok (.laload, 1) := by decide +kernel
theorem dX4_findPosts_70 : decode cX4_findPosts 70 = .ok (.ladd, 1) := by decide +kernel
theorem dX4_findPosts_71 : decode cX4_findPosts 71 = .ok (.lstore 4, 2) := by decide +kernel
theorem dX4_findPosts_73 : decode cX4_findPosts 73 = .ok (.iinc 6 1, 3) := by decide +kernel
theorem dX4_findPosts_76 : decode cX4_findPosts 76 = .ok (.goto (-70), 3) := by decide +kernel
theorem dX4_findPosts_79 : decode cX4_findPosts 79 = .ok (.return_, 1) := by decide +kernel
theorem dX4_run_0 : decode cX4_run 0 = .ok (.aload_n 0, 1) := by decide +kernel
theorem dX4_run_1 : decode cX4_run 1 = .ok (.iload_n 1, 1) := by decide +kernel
theorem dX4_run_2 : decode cX4_run 2 = .ok (.lload_n 2, 1) := by decide +kernel
theorem dX4_run_3 : decode cX4_run 3 = .ok (.invokevirtual 100, 3) := by decide +kernel
theorem dX4_run_6 : decode cX4_run 6 = .ok (.iconst 0, 1) := by decide +kernel
theorem dX4_run_7 : decode cX4_run 7 = .ok (.istore 6, 2) := by decide +kernel
theorem dX4_run_9 : decode cX4_run 9 = .ok (.iconst 1, 1) := by decide +kernel
theorem dX4_run_10 : decode cX4_run 10 = .ok (.istore 7, 2) := by decide +kernel
theorem dX4_run_12 : decode cX4_run 12 = .ok (.iload 6, 2) := by decide +kernel
theorem dX4_run_14 : decode cX4_run 14 = .ok (.aload_n 0, 1) := by decide +kernel
theorem dX4_run_15 : decode cX4_run 15 = .ok (.getfield 16, 3) := by decide +kernel
theorem dX4_run_18 : decode cX4_run 18 = .ok (.iload_n 1, 1) := by decide +kernel
theorem dX4_run_19 : decode cX4_run 19 = .ok (.iaload, 1) := by decide +kernel
theorem dX4_run_20 : decode cX4_run 20 = .ok (.if_icmp .ge 103, 3) := by decide +kernel
theorem dX4_run_23 : decode cX4_run 23 = .ok (.iload 7, 2) := by decide +kernel
theorem dX4_run_25 : decode cX4_run 25 = .ok (.ifCond .eq 98, 3) := by decide +kernel
theorem dX4_run_28 : decode cX4_run 28 = .ok (.aload_n 0, 1) := by decide +kernel
theorem dX4_run_29 : decode cX4_run 29 = .ok (.getfield 23, 3) := by decide +kernel
theorem dX4_run_32 : decode cX4_run 32 = .ok (.iconst 4, 1) := by decide +kernel
theorem dX4_run_33 : decode cX4_run 33 = .ok (.iload_n 1, 1) := by decide +kernel
theorem dX4_run_34 : decode cX4_run 34 = .ok (.imul, 1) := by decide +kernel
theorem dX4_run_35 : decode cX4_run 35 = .ok (.iload 6, 2) := by decide +kernel
theorem dX4_run_37 : decode cX4_run 37 = .ok (.iadd, 1) := by decide +kernel
theorem dX4_run_38 : decode cX4_run 38 = .ok (.iaload, 1) := by decide +kernel
theorem dX4_run_39 : decode cX4_run 39 = .ok (.istore 8, 2) := by decide +kernel
theorem dX4_run_41 : decode cX4_run 41 = .ok (.aload_n 0, 1) := by decide +kernel
theorem dX4_run_42 : decode cX4_run 42 = .ok (.getfield 7, 3) := by decide +kernel
theorem dX4_run_45 : decode cX4_run 45 = .ok (.iload 8, 2) := by decide +kernel
theorem dX4_run_47 : decode cX4_run 47 = .ok (.laload, 1) := by decide +kernel
theorem dX4_run_48 : decode cX4_run 48 = .ok (.lload 4, 2) := by decide +kernel
theorem dX4_run_50 : decode cX4_run 50 = .ok (.aload_n 0, 1) := by decide +kernel
theorem dX4_run_51 : decode cX4_run 51 = .ok (.getfield 60, 3) := by decide +kernel
theorem dX4_run_54 : decode cX4_run 54 = .ok (.iload 6, 2) := by decide +kernel
theorem dX4_run_56 : decode cX4_run 56 = .ok (.laload, 1) := by decide +kernel
theorem dX4_run_57 : decode cX4_run 57 = .ok (.lmul, 1) := by decide +kernel
theorem dX4_run_58 : decode cX4_run 58 = .ok (.ladd, 1) := by decide +kernel
theorem dX4_run_59 : decode cX4_run 59 = .ok (.lstore 9, 2) := by decide +kernel
theorem dX4_run_61 : decode cX4_run 61 = .ok (.lload 9, 2) := by decide +kernel
theorem dX4_run_63 : decode cX4_run 63 = .ok (.ldc2_w 96, 3) := by decide +kernel
theorem dX4_run_66 : decode cX4_run 66 = .ok (.lcmp, 1) := by decide +kernel
theorem dX4_run_67 : decode cX4_run 67 = .ok (.ifCond .gt 33, 3) := by decide +kernel
theorem dX4_run_70 : decode cX4_run 70 = .ok (.lload 9, 2) := by decide +kernel
theorem dX4_run_72 : decode cX4_run 72 = .ok (.aload_n 0, 1) := by decide +kernel
theorem dX4_run_73 : decode cX4_run 73 = .ok (.getfield 13, 3) := by decide +kernel
theorem dX4_run_76 : decode cX4_run 76 = .ok (.iload 8, 2) := by decide +kernel
theorem dX4_run_78 : decode cX4_run 78 = .ok (.laload, 1) := by decide +kernel
theorem dX4_run_79 : decode cX4_run 79 = .ok (.lcmp, 1) := by decide +kernel
theorem dX4_run_80 : decode cX4_run 80 = .ok (.ifCond .ge 16, 3) := by decide +kernel
theorem dX4_run_83 : decode cX4_run 83 = .ok (.lload 9, 2) := by decide +kernel
theorem dX4_run_85 : decode cX4_run 85 = .ok (.aload_n 0, 1) := by decide +kernel
theorem dX4_run_86 : decode cX4_run 86 = .ok (.getfield 7, 3) := by decide +kernel
theorem dX4_run_89 : decode cX4_run 89 = .ok (.iload 8, 2) := by decide +kernel
theorem dX4_run_91 : decode cX4_run 91 = .ok (.laload, 1) := by decide +kernel
theorem dX4_run_92 : decode cX4_run 92 = .ok (.lcmp, 1) := by decide +kernel
theorem dX4_run_93 : decode cX4_run 93 = .ok (.ifCond .lt 7, 3) := by decide +kernel
theorem dX4_run_96 : decode cX4_run 96 = .ok (.iconst 1, 1) := by decide +kernel
theorem dX4_run_97 : decode cX4_run 97 = .ok (.goto 4, 3) := by decide +kernel
theorem dX4_run_100 : decode cX4_run 100 = .ok (.iconst 0, 1) := by decide +kernel
theorem dX4_run_101 : decode cX4_run 101 = .ok (.istore 7, 2) := by decide +kernel
theorem dX4_run_103 : decode cX4_run 103 = .ok (.iload 7, 2) := by decide +kernel
theorem dX4_run_105 : decode cX4_run 105 = .ok (.ifCond .eq 15, 3) := by decide +kernel
theorem dX4_run_108 : decode cX4_run 108 = .ok (.aload_n 0, 1) := by decide +kernel
theorem dX4_run_109 : decode cX4_run 109 = .ok (.getfield 7, 3) := by decide +kernel
theorem dX4_run_112 : decode cX4_run 112 = .ok (.iload 8, 2) := by decide +kernel
theorem dX4_run_114 : decode cX4_run 114 = .ok (.lload 9, 2) := by decide +kernel
theorem dX4_run_116 : decode cX4_run 116 = .ok (.lastore, 1) := by decide +kernel
theorem dX4_run_117 : decode cX4_run 117 = .ok (.iinc 6 1, 3) := by decide +kernel
theorem dX4_run_120 : decode cX4_run 120 = .ok (.goto (-108), 3) := by decide +kernel
theorem dX4_run_123 : decode cX4_run 123 = .ok (.iconst 0, 1) := by decide +kernel
theorem dX4_run_124 : decode cX4_run 124 = .ok (.istore 8, 2) := by decide +kernel
theorem dX4_run_126 : decode cX4_run 126 = .ok (.iload 8, 2) := by decide +kernel
theorem dX4_run_128 : decode cX4_run 128 = .ok (.iload 6, 2) := by decide +kernel
theorem dX4_run_130 : decode cX4_run 130 = .ok (.if_icmp .ge 52, 3) := by decide +kernel
theorem dX4_run_133 : decode cX4_run 133 = .ok (.iload 7, 2) := by decide +kernel
theorem dX4_run_135 : decode cX4_run 135 = .ok (.ifCond .ne 47, 3) := by decide +kernel
theorem dX4_run_138 : decode cX4_run 138 = .ok (.aload_n 0, 1) := by decide +kernel
theorem dX4_run_139 : decode cX4_run 139 = .ok (.getfield 23, 3) := by decide +kernel
theorem dX4_run_142 : decode cX4_run 142 = .ok (.iconst 4, 1) := by decide +kernel
theorem dX4_run_143 : decode cX4_run 143 = .ok (.iload_n 1, 1) := by decide +kernel
theorem dX4_run_144 : decode cX4_run 144 = .ok (.imul, 1) := by decide +kernel
theorem dX4_run_145 : decode cX4_run 145 = .ok (.iload 8, 2) := by decide +kernel
theorem dX4_run_147 : decode cX4_run 147 = .ok (.iadd, 1) := by decide +kernel
theorem dX4_run_148 : decode cX4_run 148 = .ok (.iaload, 1) := by decide +kernel
theorem dX4_run_149 : decode cX4_run 149 = .ok (.istore 9, 2) := by decide +kernel
theorem dX4_run_151 : decode cX4_run 151 = .ok (.aload_n 0, 1) := by decide +kernel
theorem dX4_run_152 : decode cX4_run 152 = .ok (.getfield 7, 3) := by decide +kernel
theorem dX4_run_155 : decode cX4_run 155 = .ok (.iload 9, 2) := by decide +kernel
theorem dX4_run_157 : decode cX4_run 157 = .ok (.aload_n 0, 1) := by decide +kernel
theorem dX4_run_158 : decode cX4_run 158 = .ok (.getfield 7, 3) := by decide +kernel
theorem dX4_run_161 : decode cX4_run 161 = .ok (.iload 9, 2) := by decide +kernel
theorem dX4_run_163 : decode cX4_run 163 = .ok (.laload, 1) := by decide +kernel
theorem dX4_run_164 : decode cX4_run 164 = .ok (.lload 4, 2) := by decide +kernel
theorem dX4_run_166 : decode cX4_run 166 = .ok (.aload_n 0, 1) := by decide +kernel
theorem dX4_run_167 : decode cX4_run 167 = .ok (.getfield 60, 3) := by decide +kernel
theorem dX4_run_170 : decode cX4_run 170 = .ok (.iload 8, 2) := by decide +kernel
theorem dX4_run_172 : decode cX4_run 172 = .ok (.laload, 1) := by decide +kernel
theorem dX4_run_173 : decode cX4_run 173 = .ok (.lmul, 1) := by decide +kernel
theorem dX4_run_174 : decode cX4_run 174 = .ok (.lsub, 1) := by decide +kernel
theorem dX4_run_175 : decode cX4_run 175 = .ok (.lastore, 1) := by decide +kernel
theorem dX4_run_176 : decode cX4_run 176 = .ok (.iinc 8 1, 3) := by decide +kernel
theorem dX4_run_179 : decode cX4_run 179 = .ok (.goto (-53), 3) := by decide +kernel
theorem dX4_run_182 : decode cX4_run 182 = .ok (.iload 7, 2) := by decide +kernel
theorem dX4_run_184 : decode cX4_run 184 = .ok (.ireturn, 1) := by decide +kernel
theorem dX4_logged_0 : decode cX4_logged 0 = .ok (.lconst 0, 1) := by decide +kernel
theorem dX4_logged_1 : decode cX4_logged 1 = .ok (.lstore_n 3, 1) := by decide +kernel
theorem dX4_logged_2 : decode cX4_logged 2 = .ok (.iconst 0, 1) := by decide +kernel
theorem dX4_logged_3 : decode cX4_logged 3 = .ok (.istore 5, 2) := by decide +kernel
theorem dX4_logged_5 : decode cX4_logged 5 = .ok (.iload 5, 2) := by decide +kernel
theorem dX4_logged_7 : decode cX4_logged 7 = .ok (.iload_n 2, 1) := by decide +kernel
theorem dX4_logged_8 : decode cX4_logged 8 = .ok (.if_icmp .ge 109, 3) := by decide +kernel
theorem dX4_logged_11 : decode cX4_logged 11 = .ok (.aload_n 0, 1) := by decide +kernel
theorem dX4_logged_12 : decode cX4_logged 12 = .ok (.aload_n 0, 1) := by decide +kernel
theorem dX4_logged_13 : decode cX4_logged 13 = .ok (.getfield 33, 3) := by decide +kernel
theorem dX4_logged_16 : decode cX4_logged 16 = .ok (.iload 5, 2) := by decide +kernel
theorem dX4_logged_18 : decode cX4_logged 18 = .ok (.iaload, 1) := by decide +kernel
theorem dX4_logged_19 : decode cX4_logged 19 = .ok (.aload_n 0, 1) := by decide +kernel
theorem dX4_logged_20 : decode cX4_logged 20 = .ok (.getfield 36, 3) := by decide +kernel
theorem dX4_logged_23 : decode cX4_logged 23 = .ok (.iload 5, 2) := by decide +kernel
theorem dX4_logged_25 : decode cX4_logged 25 = .ok (.laload, 1) := by decide +kernel
theorem dX4_logged_26 : decode cX4_logged 26 = .ok (.invokevirtual 100, 3) := by decide +kernel
theorem dX4_logged_29 : decode cX4_logged 29 = .ok (.iconst 0, 1) := by decide +kernel
theorem dX4_logged_30 : decode cX4_logged 30 = .ok (.istore 6, 2) := by decide +kernel
theorem dX4_logged_32 : decode cX4_logged 32 = .ok (.iload 6, 2) := by decide +kernel
theorem dX4_logged_34 : decode cX4_logged 34 = .ok (.aload_n 0, 1) := by decide +kernel
theorem dX4_logged_35 : decode cX4_logged 35 = .ok (.getfield 16, 3) := by decide +kernel
theorem dX4_logged_38 : decode cX4_logged 38 = .ok (.aload_n 0, 1) := by decide +kernel
theorem dX4_logged_39 : decode cX4_logged 39 = .ok (.getfield 33, 3) := by decide +kernel
theorem dX4_logged_42 : decode cX4_logged 42 = .ok (.iload 5, 2) := by decide +kernel
theorem dX4_logged_44 : decode cX4_logged 44 = .ok (.iaload, 1) := by decide +kernel
theorem dX4_logged_45 : decode cX4_logged 45 = .ok (.iaload, 1) := by decide +kernel
theorem dX4_logged_46 : decode cX4_logged 46 = .ok (.if_icmp .ge 65, 3) := by decide +kernel
theorem dX4_logged_49 : decode cX4_logged 49 = .ok (.aload_n 0, 1) := by decide +kernel
theorem dX4_logged_50 : decode cX4_logged 50 = .ok (.getfield 23, 3) := by decide +kernel
theorem dX4_logged_53 : decode cX4_logged 53 = .ok (.iconst 4, 1) := by decide +kernel
theorem dX4_logged_54 : decode cX4_logged 54 = .ok (.aload_n 0, 1) := by decide +kernel
theorem dX4_logged_55 : decode cX4_logged 55 = .ok (.getfield 33, 3) := by decide +kernel
theorem dX4_logged_58 : decode cX4_logged 58 = .ok (.iload 5, 2) := by decide +kernel
theorem dX4_logged_60 : decode cX4_logged 60 = .ok (.iaload, 1) := by decide +kernel
theorem dX4_logged_61 : decode cX4_logged 61 = .ok (.imul, 1) := by decide +kernel
theorem dX4_logged_62 : decode cX4_logged 62 = .ok (.iload 6, 2) := by decide +kernel
theorem dX4_logged_64 : decode cX4_logged 64 = .ok (.iadd, 1) := by decide +kernel
theorem dX4_logged_65 : decode cX4_logged 65 = .ok (.iaload, 1) := by decide +kernel
theorem dX4_logged_66 : decode cX4_logged 66 = .ok (.iload_n 1, 1) := by decide +kernel
theorem dX4_logged_67 : decode cX4_logged 67 = .ok (.if_icmp .ne 13, 3) := by decide +kernel
theorem dX4_logged_70 : decode cX4_logged 70 = .ok (.aload_n 0, 1) := by decide +kernel
theorem dX4_logged_71 : decode cX4_logged 71 = .ok (.getfield 60, 3) := by decide +kernel
theorem dX4_logged_74 : decode cX4_logged 74 = .ok (.iload 6, 2) := by decide +kernel
theorem dX4_logged_76 : decode cX4_logged 76 = .ok (.laload, 1) := by decide +kernel
theorem dX4_logged_77 : decode cX4_logged 77 = .ok (.goto 4, 3) := by decide +kernel
theorem dX4_logged_80 : decode cX4_logged 80 = .ok (.lconst 0, 1) := by decide +kernel
theorem dX4_logged_81 : decode cX4_logged 81 = .ok (.lstore 7, 2) := by decide +kernel
theorem dX4_logged_83 : decode cX4_logged 83 = .ok (.aload_n 0, 1) := by decide +kernel
theorem dX4_logged_84 : decode cX4_logged 84 = .ok (.getfield 45, 3) := by decide +kernel
theorem dX4_logged_87 : decode cX4_logged 87 = .ok (.iload 5, 2) := by decide +kernel
theorem dX4_logged_89 : decode cX4_logged 89 = .ok (.iaload, 1) := by decide +kernel
theorem dX4_logged_90 : decode cX4_logged 90 = .ok (.ifCond .lt 10, 3) := by decide +kernel
theorem dX4_logged_93 : decode cX4_logged 93 = .ok (.lload_n 3, 1) := by decide +kernel
theorem dX4_logged_94 : decode cX4_logged 94 = .ok (.lload 7, 2) := by decide +kernel
theorem dX4_logged_96 : decode cX4_logged 96 = .ok (.lsub, 1) := by decide +kernel
theorem dX4_logged_97 : decode cX4_logged 97 = .ok (.goto 7, 3) := by decide +kernel
theorem dX4_logged_100 : decode cX4_logged 100 = .ok (.lload_n 3, 1) := by decide +kernel
theorem dX4_logged_101 : decode cX4_logged 101 = .ok (.lload 7, 2) := by decide +kernel
theorem dX4_logged_103 : decode cX4_logged 103 = .ok (.ladd, 1) := by decide +kernel
theorem dX4_logged_104 : decode cX4_logged 104 = .ok (.lstore_n 3, 1) := by decide +kernel
theorem dX4_logged_105 : decode cX4_logged 105 = .ok (.iinc 6 1, 3) := by decide +kernel
theorem dX4_logged_108 : decode cX4_logged 108 = .ok (.goto (-76), 3) := by decide +kernel
theorem dX4_logged_111 : decode cX4_logged 111 = .ok (.iinc 5 1, 3) := by decide +kernel
theorem dX4_logged_114 : decode cX4_logged 114 = .ok (.goto (-109), 3) := by decide +kernel
theorem dX4_logged_117 : decode cX4_logged 117 = .ok (.lload_n 3, 1) := by decide +kernel
theorem dX4_logged_118 : decode cX4_logged 118 = .ok (.lreturn, 1) := by decide +kernel
theorem dX4_isSound_0 : decode cX4_isSound 0 = .ok (.iconst 1, 1) := by decide +kernel
theorem dX4_isSound_1 : decode cX4_isSound 1 = .ok (.istore_n 1, 1) := by decide +kernel
theorem dX4_isSound_2 : decode cX4_isSound 2 = .ok (.iconst 0, 1) := by decide +kernel
theorem dX4_isSound_3 : decode cX4_isSound 3 = .ok (.istore_n 2, 1) := by decide +kernel
theorem dX4_isSound_4 : decode cX4_isSound 4 = .ok (.iload_n 2, 1) := by decide +kernel
theorem dX4_isSound_5 : decode cX4_isSound 5 = .ok (.bipush 8, 2) := by decide +kernel
theorem dX4_isSound_7 : decode cX4_isSound 7 = .ok (.if_icmp .ge 38, 3) := by decide +kernel
theorem dX4_isSound_10 : decode cX4_isSound 10 = .ok (.iload_n 1, 1) := by decide +kernel
theorem dX4_isSound_11 : decode cX4_isSound 11 = .ok (.ifCond .eq 26, 3) := by decide +kernel
theorem dX4_isSound_14 : decode cX4_isSound 14 = .ok (.aload_n 0, 1) := by decide +kernel
theorem dX4_isSound_15 : decode cX4_isSound 15 = .ok (.getfield 7, 3) := by decide +kernel
theorem dX4_isSound_18 : decode cX4_isSound 18 = .ok (.iload_n 2, 1) := by decide +kernel
theorem dX4_isSound_19 : decode cX4_isSound 19 = .ok (.laload, 1) := by decide +kernel
theorem dX4_isSound_20 : decode cX4_isSound 20 = .ok (.aload_n 0, 1) := by decide +kernel
theorem dX4_isSound_21 : decode cX4_isSound 21 = .ok (.iload_n 2, 1) := by decide +kernel
theorem dX4_isSound_22 : decode cX4_isSound 22 = .ok (.aload_n 0, 1) := by decide +kernel
theorem dX4_isSound_23 : decode cX4_isSound 23 = .ok (.getfield 104, 3) := by decide +kernel
theorem dX4_isSound_26 : decode cX4_isSound 26 = .ok (.invokevirtual 107, 3) := by decide +kernel
theorem dX4_isSound_29 : decode cX4_isSound 29 = .ok (.lcmp, 1) := by decide +kernel
theorem dX4_isSound_30 : decode cX4_isSound 30 = .ok (.ifCond .ne 7, 3) := by decide +kernel
theorem dX4_isSound_33 : decode cX4_isSound 33 = .ok (.iconst 1, 1) := by decide +kernel
theorem dX4_isSound_34 : decode cX4_isSound 34 = .ok (.goto 4, 3) := by decide +kernel
theorem dX4_isSound_37 : decode cX4_isSound 37 = .ok (.iconst 0, 1) := by decide +kernel
theorem dX4_isSound_38 : decode cX4_isSound 38 = .ok (.istore_n 1, 1) := by decide +kernel
theorem dX4_isSound_39 : decode cX4_isSound 39 = .ok (.iinc 2 1, 3) := by decide +kernel
theorem dX4_isSound_42 : decode cX4_isSound 42 = .ok (.goto (-38), 3) := by decide +kernel
theorem dX4_isSound_45 : decode cX4_isSound 45 = .ok (.iload_n 1, 1) := by decide +kernel
theorem dX4_isSound_46 : decode cX4_isSound 46 = .ok (.ireturn, 1) := by decide +kernel
theorem dX4_sound_0 : decode cX4_sound 0 = .ok (.aload_n 0, 1) := by decide +kernel
theorem dX4_sound_1 : decode cX4_sound 1 = .ok (.iconst 0, 1) := by decide +kernel
theorem dX4_sound_2 : decode cX4_sound 2 = .ok (.putfield 65, 3) := by decide +kernel
theorem dX4_sound_5 : decode cX4_sound 5 = .ok (.aload_n 0, 1) := by decide +kernel
theorem dX4_sound_6 : decode cX4_sound 6 = .ok (.invokevirtual 111, 3) := by decide +kernel
theorem dX4_sound_9 : decode cX4_sound 9 = .ok (.ireturn, 1) := by decide +kernel
theorem dX4_enter_0 : decode cX4_enter 0 = .ok (.aload_n 0, 1) := by decide +kernel
theorem dX4_enter_1 : decode cX4_enter 1 = .ok (.invokevirtual 111, 3) := by decide +kernel
theorem dX4_enter_4 : decode cX4_enter 4 = .ok (.ifCond .eq 33, 3) := by decide +kernel
theorem dX4_enter_7 : decode cX4_enter 7 = .ok (.aload_n 0, 1) := by decide +kernel
theorem dX4_enter_8 : decode cX4_enter 8 = .ok (.getfield 104, 3) := by decide +kernel
theorem dX4_enter_11 : decode cX4_enter 11 = .ok (.bipush 40, 2) := by decide +kernel
theorem dX4_enter_13 : decode cX4_enter 13 = .ok (.if_icmp .eq 24, 3) := by decide +kernel
theorem dX4_enter_16 : decode cX4_enter 16 = .ok (.aload_n 0, 1) := by decide +kernel
theorem dX4_enter_17 : decode cX4_enter 17 = .ok (.iload_n 1, 1) := by decide +kernel
theorem dX4_enter_18 : decode cX4_enter 18 = .ok (.lload_n 2, 1) := by decide +kernel
theorem dX4_enter_19 : decode cX4_enter 19 = .ok (.iload 6, 2) := by decide +kernel
theorem dX4_enter_21 : decode cX4_enter 21 = .ok (.ifCond .lt 9, 3) := by decide +kernel
theorem dX4_enter_24 : decode cX4_enter 24 = .ok (.ldc2_w 115, 3) := by decide +kernel
theorem dX4_enter_27 : decode cX4_enter 27 = .ok (.goto 4, 3) := by decide +kernel
theorem dX4_enter_30 : decode cX4_enter 30 = .ok (.lconst 1, 1) := by decide +kernel
theorem dX4_enter_31 : decode cX4_enter 31 = .ok (.invokevirtual 117, 3) := by decide +kernel
theorem dX4_enter_34 : decode cX4_enter 34 = .ok (.ifCond .ne 5, 3) := by decide +kernel
theorem dX4_enter_37 : decode cX4_enter 37 = .ok (.iconst (-1), 1) := by decide +kernel
theorem dX4_enter_38 : decode cX4_enter 38 = .ok (.ireturn, 1) := by decide +kernel
theorem dX4_enter_39 : decode cX4_enter 39 = .ok (.aload_n 0, 1) := by decide +kernel
theorem dX4_enter_40 : decode cX4_enter 40 = .ok (.getfield 33, 3) := by decide +kernel
theorem dX4_enter_43 : decode cX4_enter 43 = .ok (.aload_n 0, 1) := by decide +kernel
theorem dX4_enter_44 : decode cX4_enter 44 = .ok (.getfield 104, 3) := by decide +kernel
theorem dX4_enter_47 : decode cX4_enter 47 = .ok (.iload_n 1, 1) := by decide +kernel
theorem dX4_enter_48 : decode cX4_enter 48 = .ok (.iastore, 1) := by decide +kernel
theorem dX4_enter_49 : decode cX4_enter 49 = .ok (.aload_n 0, 1) := by decide +kernel
theorem dX4_enter_50 : decode cX4_enter 50 = .ok (.getfield 36, 3) := by decide +kernel
theorem dX4_enter_53 : decode cX4_enter 53 = .ok (.aload_n 0, 1) := by decide +kernel
theorem dX4_enter_54 : decode cX4_enter 54 = .ok (.getfield 104, 3) := by decide +kernel
theorem dX4_enter_57 : decode cX4_enter 57 = .ok (.lload_n 2, 1) := by decide +kernel
theorem dX4_enter_58 : decode cX4_enter 58 = .ok (.lastore, 1) := by decide +kernel
theorem dX4_enter_59 : decode cX4_enter 59 = .ok (.aload_n 0, 1) := by decide +kernel
theorem dX4_enter_60 : decode cX4_enter 60 = .ok (.getfield 39, 3) := by decide +kernel
theorem dX4_enter_63 : decode cX4_enter 63 = .ok (.aload_n 0, 1) := by decide +kernel
theorem dX4_enter_64 : decode cX4_enter 64 = .ok (.getfield 104, 3) := by decide +kernel
theorem dX4_enter_67 : decode cX4_enter 67 = .ok (.iload 4, 2) := by decide +kernel
theorem dX4_enter_69 : decode cX4_enter 69 = .ok (.iastore, 1) := by decide +kernel
theorem dX4_enter_70 : decode cX4_enter 70 = .ok (.aload_n 0, 1) := by decide +kernel
theorem dX4_enter_71 : decode cX4_enter 71 = .ok (.getfield 42, 3) := by decide +kernel
theorem dX4_enter_74 : decode cX4_enter 74 = .ok (.aload_n 0, 1) := by decide +kernel
theorem dX4_enter_75 : decode cX4_enter 75 = .ok (.getfield 104, 3) := by decide +kernel
theorem dX4_enter_78 : decode cX4_enter 78 = .ok (.iload 5, 2) := by decide +kernel
theorem dX4_enter_80 : decode cX4_enter 80 = .ok (.iastore, 1) := by decide +kernel
theorem dX4_enter_81 : decode cX4_enter 81 = .ok (.aload_n 0, 1) := by decide +kernel
theorem dX4_enter_82 : decode cX4_enter 82 = .ok (.getfield 45, 3) := by decide +kernel
theorem dX4_enter_85 : decode cX4_enter 85 = .ok (.aload_n 0, 1) := by decide +kernel
theorem dX4_enter_86 : decode cX4_enter 86 = .ok (.getfield 104, 3) := by decide +kernel
theorem dX4_enter_89 : decode cX4_enter 89 = .ok (.iload 6, 2) := by decide +kernel
theorem dX4_enter_91 : decode cX4_enter 91 = .ok (.iastore, 1) := by decide +kernel
theorem dX4_enter_92 : decode cX4_enter 92 = .ok (.aload_n 0, 1) := by decide +kernel
theorem dX4_enter_93 : decode cX4_enter 93 = .ok (.getfield 48, 3) := by decide +kernel
theorem dX4_enter_96 : decode cX4_enter 96 = .ok (.aload_n 0, 1) := by decide +kernel
theorem dX4_enter_97 : decode cX4_enter 97 = .ok (.getfield 104, 3) := by decide +kernel
theorem dX4_enter_100 : decode cX4_enter 100 = .ok (.iconst (-1), 1) := by decide +kernel
theorem dX4_enter_101 : decode cX4_enter 101 = .ok (.iastore, 1) := by decide +kernel
theorem dX4_enter_102 : decode cX4_enter 102 = .ok (.iload 6, 2) := by decide +kernel
theorem dX4_enter_104 : decode cX4_enter 104 = .ok (.ifCond .lt 14, 3) := by decide +kernel
theorem dX4_enter_107 : decode cX4_enter 107 = .ok (.aload_n 0, 1) := by decide +kernel
theorem dX4_enter_108 : decode cX4_enter 108 = .ok (.getfield 48, 3) := by decide +kernel
theorem dX4_enter_111 : decode cX4_enter 111 = .ok (.iload 6, 2) := by decide +kernel
theorem dX4_enter_113 : decode cX4_enter 113 = .ok (.aload_n 0, 1) := by decide +kernel
theorem dX4_enter_114 : decode cX4_enter 114 = .ok (.getfield 104, 3) := by decide +kernel
theorem dX4_enter_117 : decode cX4_enter 117 = .ok (.iastore, 1) := by decide +kernel
theorem dX4_enter_118 : decode cX4_enter 118 = .ok (.aload_n 0, 1) := by decide +kernel
theorem dX4_enter_119 : decode cX4_enter 119 = .ok (.dup, 1) := by decide +kernel
theorem dX4_enter_120 : decode cX4_enter 120 = .ok (.getfield 104, 3) := by decide +kernel
theorem dX4_enter_123 : decode cX4_enter 123 = .ok (.iconst 1, 1) := by decide +kernel
theorem dX4_enter_124 : decode cX4_enter 124 = .ok (.iadd, 1) := by decide +kernel
theorem dX4_enter_125 : decode cX4_enter 125 = .ok (.putfield 104, 3) := by decide +kernel
theorem dX4_enter_128 : decode cX4_enter 128 = .ok (.aload_n 0, 1) := by decide +kernel
theorem dX4_enter_129 : decode cX4_enter 129 = .ok (.getfield 104, 3) := by decide +kernel
theorem dX4_enter_132 : decode cX4_enter 132 = .ok (.iconst 1, 1) := by decide +kernel
theorem dX4_enter_133 : decode cX4_enter 133 = .ok (.isub, 1) := by decide +kernel
theorem dX4_enter_134 : decode cX4_enter 134 = .ok (.ireturn, 1) := by decide +kernel
theorem dX4_freeRequest_0 : decode cX4_freeRequest 0 = .ok (.iconst (-1), 1) := by decide +kernel
theorem dX4_freeRequest_1 : decode cX4_freeRequest 1 = .ok (.istore_n 1, 1) := by decide +kernel
theorem dX4_freeRequest_2 : decode cX4_freeRequest 2 = .ok (.iconst 5, 1) := by decide +kernel
theorem dX4_freeRequest_3 : decode cX4_freeRequest 3 = .ok (.istore_n 2, 1) := by decide +kernel
theorem dX4_freeRequest_4 : decode cX4_freeRequest 4 = .ok (.iload_n 2, 1) := by decide +kernel
theorem dX4_freeRequest_5 : decode cX4_freeRequest 5 = .ok (.ifCond .lt 24, 3) := by decide +kernel
theorem dX4_freeRequest_8 : decode cX4_freeRequest 8 = .ok (.aload_n 0, 1) := by decide +kernel
theorem dX4_freeRequest_9 : decode cX4_freeRequest 9 = .ok (.getfield 51, 3) := by decide +kernel
theorem dX4_freeRequest_12 : decode cX4_freeRequest 12 = .ok (.iload_n 2, 1) := by decide +kernel
theorem dX4_freeRequest_13 : decode cX4_freeRequest 13 = .ok (.iaload, 1) := by decide +kernel
theorem dX4_freeRequest_14 : decode cX4_freeRequest 14 = .ok (.ifCond .ge 7, 3) := by decide +kernel
theorem dX4_freeRequest_17 : decode cX4_freeRequest 17 = .ok (.iload_n 2, 1) := by decide +kernel
theorem dX4_freeRequest_18 : decode cX4_freeRequest 18 = .ok (.goto 4, 3) := by decide +kernel
theorem dX4_freeRequest_21 : decode cX4_freeRequest 21 = .ok (.iload_n 1, 1) := by decide +kernel
theorem dX4_freeRequest_22 : decode cX4_freeRequest 22 = .ok (.istore_n 1, 1) := by decide +kernel
theorem dX4_freeRequest_23 : decode cX4_freeRequest 23 = .ok (.iinc 2 (-1), 3) := by decide +kernel
theorem dX4_freeRequest_26 : decode cX4_freeRequest 26 = .ok (.goto (-22), 3) := by decide +kernel
theorem dX4_freeRequest_29 : decode cX4_freeRequest 29 = .ok (.iload_n 1, 1) := by decide +kernel
theorem dX4_freeRequest_30 : decode cX4_freeRequest 30 = .ok (.ireturn, 1) := by decide +kernel
theorem dX4_request_0 : decode cX4_request 0 = .ok (.aload_n 0, 1) := by decide +kernel
theorem dX4_request_1 : decode cX4_request 1 = .ok (.invokevirtual 121, 3) := by decide +kernel
theorem dX4_request_4 : decode cX4_request 4 = .ok (.istore 5, 2) := by decide +kernel
theorem dX4_request_6 : decode cX4_request 6 = .ok (.iload 5, 2) := by decide +kernel
theorem dX4_request_8 : decode cX4_request 8 = .ok (.ifCond .lt 19, 3) := by decide +kernel
theorem dX4_request_11 : decode cX4_request 11 = .ok (.aload_n 0, 1) := by decide +kernel
theorem dX4_request_12 : decode cX4_request 12 = .ok (.invokevirtual 111, 3) := by decide +kernel
theorem dX4_request_15 : decode cX4_request 15 = .ok (.ifCond .eq 12, 3) := by decide +kernel
theorem dX4_request_18 : decode cX4_request 18 = .ok (.aload_n 0, 1) := by decide +kernel
theorem dX4_request_19 : decode cX4_request 19 = .ok (.getfield 104, 3) := by decide +kernel
theorem dX4_request_22 : decode cX4_request 22 = .ok (.bipush 40, 2) := by decide +kernel
theorem dX4_request_24 : decode cX4_request 24 = .ok (.if_icmp .ne 5, 3) := by decide +kernel
theorem dX4_request_27 : decode cX4_request 27 = .ok (.iconst (-1), 1) := by decide +kernel
theorem dX4_request_28 : decode cX4_request 28 = .ok (.ireturn, 1) := by decide +kernel
theorem dX4_request_29 : decode cX4_request 29 = .ok (.aload_n 0, 1) := by decide +kernel
theorem dX4_request_30 : decode cX4_request 30 = .ok (.getfield 51, 3) := by decide +kernel
theorem dX4_request_33 : decode cX4_request 33 = .ok (.iload 5, 2) := by decide +kernel
theorem dX4_request_35 : decode cX4_request 35 = .ok (.iload_n 1, 1) := by decide +kernel
theorem dX4_request_36 : decode cX4_request 36 = .ok (.iastore, 1) := by decide +kernel
theorem dX4_request_37 : decode cX4_request 37 = .ok (.aload_n 0, 1) := by decide +kernel
theorem dX4_request_38 : decode cX4_request 38 = .ok (.getfield 54, 3) := by decide +kernel
theorem dX4_request_41 : decode cX4_request 41 = .ok (.iload 5, 2) := by decide +kernel
theorem dX4_request_43 : decode cX4_request 43 = .ok (.iload_n 2, 1) := by decide +kernel
theorem dX4_request_44 : decode cX4_request 44 = .ok (.iastore, 1) := by decide +kernel
theorem dX4_request_45 : decode cX4_request 45 = .ok (.aload_n 0, 1) := by decide +kernel
theorem dX4_request_46 : decode cX4_request 46 = .ok (.getfield 57, 3) := by decide +kernel
theorem dX4_request_49 : decode cX4_request 49 = .ok (.iload 5, 2) := by decide +kernel
theorem dX4_request_51 : decode cX4_request 51 = .ok (.lload_n 3, 1) := by decide +kernel
theorem dX4_request_52 : decode cX4_request 52 = .ok (.lastore, 1) := by decide +kernel
theorem dX4_request_53 : decode cX4_request 53 = .ok (.bipush 100, 2) := by decide +kernel
theorem dX4_request_55 : decode cX4_request 55 = .ok (.iload 5, 2) := by decide +kernel
theorem dX4_request_57 : decode cX4_request 57 = .ok (.iadd, 1) := by decide +kernel
theorem dX4_request_58 : decode cX4_request 58 = .ok (.ireturn, 1) := by decide +kernel
theorem dX4_ask_0 : decode cX4_ask 0 = .ok (.aload_n 0, 1) := by decide +kernel
theorem dX4_ask_1 : decode cX4_ask 1 = .ok (.iload_n 1, 1) := by decide +kernel
theorem dX4_ask_2 : decode cX4_ask 2 = .ok (.invokestatic 72, 3) := by decide +kernel
theorem dX4_ask_5 : decode cX4_ask 5 = .ok (.ifCond .eq 11, 3) := by decide +kernel
theorem dX4_ask_8 : decode cX4_ask 8 = .ok (.aload_n 0, 1) := by decide +kernel
theorem dX4_ask_9 : decode cX4_ask 9 = .ok (.iload_n 2, 1) := by decide +kernel
theorem dX4_ask_10 : decode cX4_ask 10 = .ok (.invokevirtual 79, 3) := by decide +kernel
theorem dX4_ask_13 : decode cX4_ask 13 = .ok (.ifCond .ne 7, 3) := by decide +kernel
theorem dX4_ask_16 : decode cX4_ask 16 = .ok (.iconst 1, 1) := by decide +kernel
theorem dX4_ask_17 : decode cX4_ask 17 = .ok (.goto 35, 3) := by decide +kernel
theorem dX4_ask_20 : decode cX4_ask 20 = .ok (.aload_n 0, 1) := by decide +kernel
theorem dX4_ask_21 : decode cX4_ask 21 = .ok (.iload_n 1, 1) := by decide +kernel
theorem dX4_ask_22 : decode cX4_ask 22 = .ok (.iload_n 2, 1) := by decide +kernel
theorem dX4_ask_23 : decode cX4_ask 23 = .ok (.invokevirtual 93, 3) := by decide +kernel
theorem dX4_ask_26 : decode cX4_ask 26 = .ok (.ifCond .ne 7, 3) := by decide +kernel
theorem dX4_ask_29 : decode cX4_ask 29 = .ok (.iconst 2, 1) := by decide +kernel
theorem dX4_ask_30 : decode cX4_ask 30 = .ok (.goto 22, 3) := by decide +kernel
theorem dX4_ask_33 : decode cX4_ask 33 = .ok (.lload_n 3, 1) := by decide +kernel
theorem dX4_ask_34 : decode cX4_ask 34 = .ok (.lconst 1, 1) := by decide +kernel
theorem dX4_ask_35 : decode cX4_ask 35 = .ok (.lcmp, 1) := by decide +kernel
theorem dX4_ask_36 : decode cX4_ask 36 = .ok (.ifCond .lt 11, 3) := by decide +kernel
theorem dX4_ask_39 : decode cX4_ask 39 = .ok (.lload_n 3, 1) := by decide +kernel
theorem dX4_ask_40 : decode cX4_ask 40 = .ok (.ldc2_w 125, 3) := by decide +kernel
theorem dX4_ask_43 : decode cX4_ask 43 = .ok (.lcmp, 1) := by decide +kernel
theorem dX4_ask_44 : decode cX4_ask 44 = .ok (.ifCond .le 7, 3) := by decide +kernel
theorem dX4_ask_47 : decode cX4_ask 47 = .ok (.iconst 3, 1) := by decide +kernel
theorem dX4_ask_48 : decode cX4_ask 48 = .ok (.goto 4, 3) := by decide +kernel
theorem dX4_ask_51 : decode cX4_ask 51 = .ok (.iconst 0, 1) := by decide +kernel
theorem dX4_ask_52 : decode cX4_ask 52 = .ok (.putfield 65, 3) := by decide +kernel
theorem dX4_ask_55 : decode cX4_ask 55 = .ok (.aload_n 0, 1) := by decide +kernel
theorem dX4_ask_56 : decode cX4_ask 56 = .ok (.getfield 65, 3) := by decide +kernel
theorem dX4_ask_59 : decode cX4_ask 59 = .ok (.ifCond .le 5, 3) := by decide +kernel
theorem dX4_ask_62 : decode cX4_ask 62 = .ok (.iconst 0, 1) := by decide +kernel
theorem dX4_ask_63 : decode cX4_ask 63 = .ok (.ireturn, 1) := by decide +kernel
theorem dX4_ask_64 : decode cX4_ask 64 = .ok (.lload_n 3, 1) := by decide +kernel
theorem dX4_ask_65 : decode cX4_ask 65 = .ok (.ldc2_w 127, 3) := by decide +kernel
theorem dX4_ask_68 : decode cX4_ask 68 = .ok (.lcmp, 1) := by decide +kernel
theorem dX4_ask_69 : decode cX4_ask 69 = .ok (.ifCond .le 13, 3) := by decide +kernel
theorem dX4_ask_72 : decode cX4_ask 72 = .ok (.aload_n 0, 1) := by decide +kernel
theorem dX4_ask_73 : decode cX4_ask 73 = .ok (.iload_n 1, 1) := by decide +kernel
theorem dX4_ask_74 : decode cX4_ask 74 = .ok (.iload_n 2, 1) := by decide +kernel
theorem dX4_ask_75 : decode cX4_ask 75 = .ok (.lload_n 3, 1) := by decide +kernel
theorem dX4_ask_76 : decode cX4_ask 76 = .ok (.invokevirtual 129, 3) := by decide +kernel
theorem dX4_ask_79 : decode cX4_ask 79 = .ok (.goto 12, 3) := by decide +kernel
theorem dX4_ask_82 : decode cX4_ask 82 = .ok (.aload_n 0, 1) := by decide +kernel
theorem dX4_ask_83 : decode cX4_ask 83 = .ok (.iload_n 2, 1) := by decide +kernel
theorem dX4_ask_84 : decode cX4_ask 84 = .ok (.lload_n 3, 1) := by decide +kernel
theorem dX4_ask_85 : decode cX4_ask 85 = .ok (.iload_n 1, 1) := by decide +kernel
theorem dX4_ask_86 : decode cX4_ask 86 = .ok (.iconst (-1), 1) := by decide +kernel
theorem dX4_ask_87 : decode cX4_ask 87 = .ok (.iconst (-1), 1) := by decide +kernel
theorem dX4_ask_88 : decode cX4_ask 88 = .ok (.invokevirtual 133, 3) := by decide +kernel
theorem dX4_ask_91 : decode cX4_ask 91 = .ok (.istore 5, 2) := by decide +kernel
theorem dX4_ask_93 : decode cX4_ask 93 = .ok (.aload_n 0, 1) := by decide +kernel
theorem dX4_ask_94 : decode cX4_ask 94 = .ok (.iload 5, 2) := by decide +kernel
theorem dX4_ask_96 : decode cX4_ask 96 = .ok (.ifCond .ge 7, 3) := by decide +kernel
theorem dX4_ask_99 : decode cX4_ask 99 = .ok (.iconst 4, 1) := by decide +kernel
theorem dX4_ask_100 : decode cX4_ask 100 = .ok (.goto 4, 3) := by decide +kernel
theorem dX4_ask_103 : decode cX4_ask 103 = .ok (.iconst 0, 1) := by decide +kernel
theorem dX4_ask_104 : decode cX4_ask 104 = .ok (.putfield 65, 3) := by decide +kernel
theorem dX4_ask_107 : decode cX4_ask 107 = .ok (.iload 5, 2) := by decide +kernel
theorem dX4_ask_109 : decode cX4_ask 109 = .ok (.ifCond .ge 7, 3) := by decide +kernel
theorem dX4_ask_112 : decode cX4_ask 112 = .ok (.iconst 0, 1) := by decide +kernel
theorem dX4_ask_113 : decode cX4_ask 113 = .ok (.goto 5, 3) := by decide +kernel
theorem dX4_ask_116 : decode cX4_ask 116 = .ok (.iload 5, 2) := by decide +kernel
theorem dX4_ask_118 : decode cX4_ask 118 = .ok (.ireturn, 1) := by decide +kernel
theorem dX4_isRequest_0 : decode cX4_isRequest 0 = .ok (.iload_n 1, 1) := by decide +kernel
theorem dX4_isRequest_1 : decode cX4_isRequest 1 = .ok (.ifCond .lt 22, 3) := by decide +kernel
theorem dX4_isRequest_4 : decode cX4_isRequest 4 = .ok (.iload_n 1, 1) := by decide +kernel
theorem dX4_isRequest_5 : decode cX4_isRequest 5 = .ok (.bipush 6, 2) := by decide +kernel
theorem dX4_isRequest_7 : decode cX4_isRequest 7 = .ok (.if_icmp .ge 16, 3) := by decide +kernel
theorem dX4_isRequest_10 : decode cX4_isRequest 10 = .ok (.aload_n 0, 1) := by decide +kernel
theorem dX4_isRequest_11 : decode cX4_isRequest 11 = .ok (.getfield 51, 3) := by decide +kernel
theorem dX4_isRequest_14 : decode cX4_isRequest 14 = .ok (.iload_n 1, 1) := by decide +kernel
theorem dX4_isRequest_15 : decode cX4_isRequest 15 = .ok (.iaload, 1) := by decide +kernel
theorem dX4_isRequest_16 : decode cX4_isRequest 16 = .ok (.ifCond .lt 7, 3) := by decide +kernel
theorem dX4_isRequest_19 : decode cX4_isRequest 19 = .ok (.iconst 1, 1) := by decide +kernel
theorem dX4_isRequest_20 : decode cX4_isRequest 20 = .ok (.goto 4, 3) := by decide +kernel
theorem dX4_isRequest_23 : decode cX4_isRequest 23 = .ok (.iconst 0, 1) := by decide +kernel
theorem dX4_isRequest_24 : decode cX4_isRequest 24 = .ok (.ireturn, 1) := by decide +kernel
theorem dX4_mayApprove_0 : decode cX4_mayApprove 0 = .ok (.aload_n 0, 1) := by decide +kernel
theorem dX4_mayApprove_1 : decode cX4_mayApprove 1 = .ok (.iload_n 1, 1) := by decide +kernel
theorem dX4_mayApprove_2 : decode cX4_mayApprove 2 = .ok (.aload_n 0, 1) := by decide +kernel
theorem dX4_mayApprove_3 : decode cX4_mayApprove 3 = .ok (.getfield 54, 3) := by decide +kernel
theorem dX4_mayApprove_6 : decode cX4_mayApprove 6 = .ok (.iload_n 2, 1) := by decide +kernel
theorem dX4_mayApprove_7 : decode cX4_mayApprove 7 = .ok (.iaload, 1) := by decide +kernel
theorem dX4_mayApprove_8 : decode cX4_mayApprove 8 = .ok (.invokevirtual 93, 3) := by decide +kernel
theorem dX4_mayApprove_11 : decode cX4_mayApprove 11 = .ok (.ifCond .eq 17, 3) := by decide +kernel
theorem dX4_mayApprove_14 : decode cX4_mayApprove 14 = .ok (.aload_n 0, 1) := by decide +kernel
theorem dX4_mayApprove_15 : decode cX4_mayApprove 15 = .ok (.getfield 51, 3) := by decide +kernel
theorem dX4_mayApprove_18 : decode cX4_mayApprove 18 = .ok (.iload_n 2, 1) := by decide +kernel
theorem dX4_mayApprove_19 : decode cX4_mayApprove 19 = .ok (.iaload, 1) := by decide +kernel
theorem dX4_mayApprove_20 : decode cX4_mayApprove 20 = .ok (.iload_n 1, 1) := by decide +kernel
theorem dX4_mayApprove_21 : decode cX4_mayApprove 21 = .ok (.if_icmp .eq 7, 3) := by decide +kernel
theorem dX4_mayApprove_24 : decode cX4_mayApprove 24 = .ok (.iconst 1, 1) := by decide +kernel
theorem dX4_mayApprove_25 : decode cX4_mayApprove 25 = .ok (.goto 4, 3) := by decide +kernel
theorem dX4_mayApprove_28 : decode cX4_mayApprove 28 = .ok (.iconst 0, 1) := by decide +kernel
theorem dX4_mayApprove_29 : decode cX4_mayApprove 29 = .ok (.ireturn, 1) := by decide +kernel
theorem dX4_approve_0 : decode cX4_approve 0 = .ok (.aload_n 0, 1) := by decide +kernel
theorem dX4_approve_1 : decode cX4_approve 1 = .ok (.iload_n 1, 1) := by decide +kernel
theorem dX4_approve_2 : decode cX4_approve 2 = .ok (.invokestatic 72, 3) := by decide +kernel
theorem dX4_approve_5 : decode cX4_approve 5 = .ok (.ifCond .eq 11, 3) := by decide +kernel
theorem dX4_approve_8 : decode cX4_approve 8 = .ok (.aload_n 0, 1) := by decide +kernel
theorem dX4_approve_9 : decode cX4_approve 9 = .ok (.iload_n 2, 1) := by decide +kernel
theorem dX4_approve_10 : decode cX4_approve 10 = .ok (.invokevirtual 137, 3) := by decide +kernel
theorem dX4_approve_13 : decode cX4_approve 13 = .ok (.ifCond .ne 7, 3) := by decide +kernel
theorem dX4_approve_16 : decode cX4_approve 16 = .ok (.iconst 1, 1) := by decide +kernel
theorem dX4_approve_17 : decode cX4_approve 17 = .ok (.goto 36, 3) := by decide +kernel
theorem dX4_approve_20 : decode cX4_approve 20 = .ok (.aload_n 0, 1) := by decide +kernel
theorem dX4_approve_21 : decode cX4_approve 21 = .ok (.iload_n 1, 1) := by decide +kernel
theorem dX4_approve_22 : decode cX4_approve 22 = .ok (.iload_n 2, 1) := by decide +kernel
theorem dX4_approve_23 : decode cX4_approve 23 = .ok (.invokevirtual 140, 3) := by decide +kernel
theorem dX4_approve_26 : decode cX4_approve 26 = .ok (.ifCond .eq 22, 3) := by decide +kernel
theorem dX4_approve_29 : decode cX4_approve 29 = .ok (.aload_n 0, 1) := by decide +kernel
theorem dX4_approve_30 : decode cX4_approve 30 = .ok (.aload_n 0, 1) := by decide +kernel
theorem dX4_approve_31 : decode cX4_approve 31 = .ok (.getfield 51, 3) := by decide +kernel
theorem dX4_approve_34 : decode cX4_approve 34 = .ok (.iload_n 2, 1) := by decide +kernel
theorem dX4_approve_35 : decode cX4_approve 35 = .ok (.iaload, 1) := by decide +kernel
theorem dX4_approve_36 : decode cX4_approve 36 = .ok (.aload_n 0, 1) := by decide +kernel
theorem dX4_approve_37 : decode cX4_approve 37 = .ok (.getfield 54, 3) := by decide +kernel
theorem dX4_approve_40 : decode cX4_approve 40 = .ok (.iload_n 2, 1) := by decide +kernel
theorem dX4_approve_41 : decode cX4_approve 41 = .ok (.iaload, 1) := by decide +kernel
theorem dX4_approve_42 : decode cX4_approve 42 = .ok (.invokevirtual 93, 3) := by decide +kernel
theorem dX4_approve_45 : decode cX4_approve 45 = .ok (.ifCond .ne 7, 3) := by decide +kernel
theorem dX4_approve_48 : decode cX4_approve 48 = .ok (.iconst 2, 1) := by decide +kernel
theorem dX4_approve_49 : decode cX4_approve 49 = .ok (.goto 4, 3) := by decide +kernel
theorem dX4_approve_52 : decode cX4_approve 52 = .ok (.iconst 0, 1) := by decide +kernel
theorem dX4_approve_53 : decode cX4_approve 53 = .ok (.putfield 65, 3) := by decide +kernel
theorem dX4_approve_56 : decode cX4_approve 56 = .ok (.aload_n 0, 1) := by decide +kernel
theorem dX4_approve_57 : decode cX4_approve 57 = .ok (.getfield 65, 3) := by decide +kernel
theorem dX4_approve_60 : decode cX4_approve 60 = .ok (.ifCond .le 5, 3) := by decide +kernel
theorem dX4_approve_63 : decode cX4_approve 63 = .ok (.iconst 0, 1) := by decide +kernel
theorem dX4_approve_64 : decode cX4_approve 64 = .ok (.ireturn, 1) := by decide +kernel
theorem dX4_approve_65 : decode cX4_approve 65 = .ok (.aload_n 0, 1) := by decide +kernel
theorem dX4_approve_66 : decode cX4_approve 66 = .ok (.aload_n 0, 1) := by decide +kernel
theorem dX4_approve_67 : decode cX4_approve 67 = .ok (.getfield 54, 3) := by decide +kernel
theorem dX4_approve_70 : decode cX4_approve 70 = .ok (.iload_n 2, 1) := by decide +kernel
theorem dX4_approve_71 : decode cX4_approve 71 = .ok (.iaload, 1) := by decide +kernel
theorem dX4_approve_72 : decode cX4_approve 72 = .ok (.aload_n 0, 1) := by decide +kernel
theorem dX4_approve_73 : decode cX4_approve 73 = .ok (.getfield 57, 3) := by decide +kernel
theorem dX4_approve_76 : decode cX4_approve 76 = .ok (.iload_n 2, 1) := by decide +kernel
theorem dX4_approve_77 : decode cX4_approve 77 = .ok (.laload, 1) := by decide +kernel
theorem dX4_approve_78 : decode cX4_approve 78 = .ok (.aload_n 0, 1) := by decide +kernel
theorem dX4_approve_79 : decode cX4_approve 79 = .ok (.getfield 51, 3) := by decide +kernel
theorem dX4_approve_82 : decode cX4_approve 82 = .ok (.iload_n 2, 1) := by decide +kernel
theorem dX4_approve_83 : decode cX4_approve 83 = .ok (.iaload, 1) := by decide +kernel
theorem dX4_approve_84 : decode cX4_approve 84 = .ok (.iload_n 1, 1) := by decide +kernel
theorem dX4_approve_85 : decode cX4_approve 85 = .ok (.iconst (-1), 1) := by decide +kernel
theorem dX4_approve_86 : decode cX4_approve 86 = .ok (.invokevirtual 133, 3) := by decide +kernel
theorem dX4_approve_89 : decode cX4_approve 89 = .ok (.istore_n 3, 1) := by decide +kernel
theorem dX4_approve_90 : decode cX4_approve 90 = .ok (.aload_n 0, 1) := by decide +kernel
theorem dX4_approve_91 : decode cX4_approve 91 = .ok (.iload_n 3, 1) := by decide +kernel
theorem dX4_approve_92 : decode cX4_approve 92 = .ok (.ifCond .ge 7, 3) := by decide +kernel
theorem dX4_approve_95 : decode cX4_approve 95 = .ok (.iconst 3, 1) := by decide +kernel
theorem dX4_approve_96 : decode cX4_approve 96 = .ok (.goto 4, 3) := by decide +kernel
theorem dX4_approve_99 : decode cX4_approve 99 = .ok (.iconst 0, 1) := by decide +kernel
theorem dX4_approve_100 : decode cX4_approve 100 = .ok (.putfield 65, 3) := by decide +kernel
theorem dX4_approve_103 : decode cX4_approve 103 = .ok (.iload_n 3, 1) := by decide +kernel
theorem dX4_approve_104 : decode cX4_approve 104 = .ok (.ifCond .ge 5, 3) := by decide +kernel
theorem dX4_approve_107 : decode cX4_approve 107 = .ok (.iconst 0, 1) := by decide +kernel
theorem dX4_approve_108 : decode cX4_approve 108 = .ok (.ireturn, 1) := by decide +kernel
theorem dX4_approve_109 : decode cX4_approve 109 = .ok (.aload_n 0, 1) := by decide +kernel
theorem dX4_approve_110 : decode cX4_approve 110 = .ok (.getfield 51, 3) := by decide +kernel
theorem dX4_approve_113 : decode cX4_approve 113 = .ok (.iload_n 2, 1) := by decide +kernel
theorem dX4_approve_114 : decode cX4_approve 114 = .ok (.iconst (-1), 1) := by decide +kernel
theorem dX4_approve_115 : decode cX4_approve 115 = .ok (.iastore, 1) := by decide +kernel
theorem dX4_approve_116 : decode cX4_approve 116 = .ok (.iload_n 3, 1) := by decide +kernel
theorem dX4_approve_117 : decode cX4_approve 117 = .ok (.ireturn, 1) := by decide +kernel
theorem dX4_withdraw_0 : decode cX4_withdraw 0 = .ok (.aload_n 0, 1) := by decide +kernel
theorem dX4_withdraw_1 : decode cX4_withdraw 1 = .ok (.iload_n 1, 1) := by decide +kernel
theorem dX4_withdraw_2 : decode cX4_withdraw 2 = .ok (.invokestatic 72, 3) := by decide +kernel
theorem dX4_withdraw_5 : decode cX4_withdraw 5 = .ok (.ifCond .eq 11, 3) := by decide +kernel
theorem dX4_withdraw_8 : decode cX4_withdraw 8 = .ok (.aload_n 0, 1) := by decide +kernel
theorem dX4_withdraw_9 : decode cX4_withdraw 9 = .ok (.iload_n 2, 1) := by decide +kernel
theorem dX4_withdraw_10 : decode cX4_withdraw 10 = .ok (.invokevirtual 137, 3) := by decide +kernel
theorem dX4_withdraw_13 : decode cX4_withdraw 13 = .ok (.ifCond .ne 7, 3) := by decide +kernel
theorem dX4_withdraw_16 : decode cX4_withdraw 16 = .ok (.iconst 1, 1) := by decide +kernel
theorem dX4_withdraw_17 : decode cX4_withdraw 17 = .ok (.goto 27, 3) := by decide +kernel
theorem dX4_withdraw_20 : decode cX4_withdraw 20 = .ok (.aload_n 0, 1) := by decide +kernel
theorem dX4_withdraw_21 : decode cX4_withdraw 21 = .ok (.getfield 51, 3) := by decide +kernel
theorem dX4_withdraw_24 : decode cX4_withdraw 24 = .ok (.iload_n 2, 1) := by decide +kernel
theorem dX4_withdraw_25 : decode cX4_withdraw 25 = .ok (.iaload, 1) := by decide +kernel
theorem dX4_withdraw_26 : decode cX4_withdraw 26 = .ok (.iload_n 1, 1) := by decide +kernel
theorem dX4_withdraw_27 : decode cX4_withdraw 27 = .ok (.if_icmp .eq 16, 3) := by decide +kernel
theorem dX4_withdraw_30 : decode cX4_withdraw 30 = .ok (.aload_n 0, 1) := by decide +kernel
theorem dX4_withdraw_31 : decode cX4_withdraw 31 = .ok (.iload_n 1, 1) := by decide +kernel
theorem dX4_withdraw_32 : decode cX4_withdraw 32 = .ok (.iload_n 2, 1) := by decide +kernel
theorem dX4_withdraw_33 : decode cX4_withdraw 33 = .ok (.invokevirtual 140, 3) := by decide +kernel
theorem dX4_withdraw_36 : decode cX4_withdraw 36 = .ok (.ifCond .ne 7, 3) := by decide +kernel
theorem dX4_withdraw_39 : decode cX4_withdraw 39 = .ok (.iconst 2, 1) := by decide +kernel
theorem dX4_withdraw_40 : decode cX4_withdraw 40 = .ok (.goto 4, 3) := by decide +kernel
theorem dX4_withdraw_43 : decode cX4_withdraw 43 = .ok (.iconst 0, 1) := by decide +kernel
theorem dX4_withdraw_44 : decode cX4_withdraw 44 = .ok (.putfield 65, 3) := by decide +kernel
theorem dX4_withdraw_47 : decode cX4_withdraw 47 = .ok (.aload_n 0, 1) := by decide +kernel
theorem dX4_withdraw_48 : decode cX4_withdraw 48 = .ok (.getfield 65, 3) := by decide +kernel
theorem dX4_withdraw_51 : decode cX4_withdraw 51 = .ok (.ifCond .ne 10, 3) := by decide +kernel
theorem dX4_withdraw_54 : decode cX4_withdraw 54 = .ok (.aload_n 0, 1) := by decide +kernel
theorem dX4_withdraw_55 : decode cX4_withdraw 55 = .ok (.getfield 51, 3) := by decide +kernel
theorem dX4_withdraw_58 : decode cX4_withdraw 58 = .ok (.iload_n 2, 1) := by decide +kernel
theorem dX4_withdraw_59 : decode cX4_withdraw 59 = .ok (.iconst (-1), 1) := by decide +kernel
theorem dX4_withdraw_60 : decode cX4_withdraw 60 = .ok (.iastore, 1) := by decide +kernel
theorem dX4_withdraw_61 : decode cX4_withdraw 61 = .ok (.return_, 1) := by decide +kernel
theorem dX4_isEntry_0 : decode cX4_isEntry 0 = .ok (.iload_n 1, 1) := by decide +kernel
theorem dX4_isEntry_1 : decode cX4_isEntry 1 = .ok (.ifCond .lt 15, 3) := by decide +kernel
theorem dX4_isEntry_4 : decode cX4_isEntry 4 = .ok (.iload_n 1, 1) := by decide +kernel
theorem dX4_isEntry_5 : decode cX4_isEntry 5 = .ok (.aload_n 0, 1) := by decide +kernel
theorem dX4_isEntry_6 : decode cX4_isEntry 6 = .ok (.getfield 104, 3) := by decide +kernel
theorem dX4_isEntry_9 : decode cX4_isEntry 9 = .ok (.if_icmp .ge 7, 3) := by decide +kernel
theorem dX4_isEntry_12 : decode cX4_isEntry 12 = .ok (.iconst 1, 1) := by decide +kernel
theorem dX4_isEntry_13 : decode cX4_isEntry 13 = .ok (.goto 4, 3) := by decide +kernel
theorem dX4_isEntry_16 : decode cX4_isEntry 16 = .ok (.iconst 0, 1) := by decide +kernel
theorem dX4_isEntry_17 : decode cX4_isEntry 17 = .ok (.ireturn, 1) := by decide +kernel
theorem dX4_reverse_0 : decode cX4_reverse 0 = .ok (.aload_n 0, 1) := by decide +kernel
theorem dX4_reverse_1 : decode cX4_reverse 1 = .ok (.iload_n 1, 1) := by decide +kernel
theorem dX4_reverse_2 : decode cX4_reverse 2 = .ok (.invokestatic 72, 3) := by decide +kernel
theorem dX4_reverse_5 : decode cX4_reverse 5 = .ok (.ifCond .eq 11, 3) := by decide +kernel
theorem dX4_reverse_8 : decode cX4_reverse 8 = .ok (.aload_n 0, 1) := by decide +kernel
theorem dX4_reverse_9 : decode cX4_reverse 9 = .ok (.iload_n 2, 1) := by decide +kernel
theorem dX4_reverse_10 : decode cX4_reverse 10 = .ok (.invokevirtual 143, 3) := by decide +kernel
theorem dX4_reverse_13 : decode cX4_reverse 13 = .ok (.ifCond .ne 7, 3) := by decide +kernel
theorem dX4_reverse_16 : decode cX4_reverse 16 = .ok (.iconst 1, 1) := by decide +kernel
theorem dX4_reverse_17 : decode cX4_reverse 17 = .ok (.goto 54, 3) := by decide +kernel
theorem dX4_reverse_20 : decode cX4_reverse 20 = .ok (.aload_n 0, 1) := by decide +kernel
theorem dX4_reverse_21 : decode cX4_reverse 21 = .ok (.iload_n 1, 1) := by decide +kernel
theorem dX4_reverse_22 : decode cX4_reverse 22 = .ok (.aload_n 0, 1) := by decide +kernel
theorem dX4_reverse_23 : decode cX4_reverse 23 = .ok (.getfield 33, 3) := by decide +kernel
theorem dX4_reverse_26 : decode cX4_reverse 26 = .ok (.iload_n 2, 1) := by decide +kernel
theorem dX4_reverse_27 : decode cX4_reverse 27 = .ok (.iaload, 1) := by decide +kernel
theorem dX4_reverse_28 : decode cX4_reverse 28 = .ok (.invokevirtual 93, 3) := by decide +kernel
theorem dX4_reverse_31 : decode cX4_reverse 31 = .ok (.ifCond .eq 13, 3) := by decide +kernel
theorem dX4_reverse_34 : decode cX4_reverse 34 = .ok (.aload_n 0, 1) := by decide +kernel
theorem dX4_reverse_35 : decode cX4_reverse 35 = .ok (.getfield 39, 3) := by decide +kernel
theorem dX4_reverse_38 : decode cX4_reverse 38 = .ok (.iload_n 2, 1) := by decide +kernel
theorem dX4_reverse_39 : decode cX4_reverse 39 = .ok (.iaload, 1) := by decide +kernel
theorem dX4_reverse_40 : decode cX4_reverse 40 = .ok (.iload_n 1, 1) := by decide +kernel
theorem dX4_reverse_41 : decode cX4_reverse 41 = .ok (.if_icmp .ne 7, 3) := by decide +kernel
theorem dX4_reverse_44 : decode cX4_reverse 44 = .ok (.iconst 2, 1) := by decide +kernel
theorem dX4_reverse_45 : decode cX4_reverse 45 = .ok (.goto 26, 3) := by decide +kernel
theorem dX4_reverse_48 : decode cX4_reverse 48 = .ok (.aload_n 0, 1) := by decide +kernel
theorem dX4_reverse_49 : decode cX4_reverse 49 = .ok (.getfield 45, 3) := by decide +kernel
theorem dX4_reverse_52 : decode cX4_reverse 52 = .ok (.iload_n 2, 1) := by decide +kernel
theorem dX4_reverse_53 : decode cX4_reverse 53 = .ok (.iaload, 1) := by decide +kernel
theorem dX4_reverse_54 : decode cX4_reverse 54 = .ok (.ifCond .ge 12, 3) := by decide +kernel
theorem dX4_reverse_57 : decode cX4_reverse 57 = .ok (.aload_n 0, 1) := by decide +kernel
theorem dX4_reverse_58 : decode cX4_reverse 58 = .ok (.getfield 48, 3) := by decide +kernel
theorem dX4_reverse_61 : decode cX4_reverse 61 = .ok (.iload_n 2, 1) := by decide +kernel
theorem dX4_reverse_62 : decode cX4_reverse 62 = .ok (.iaload, 1) := by decide +kernel
theorem dX4_reverse_63 : decode cX4_reverse 63 = .ok (.ifCond .lt 7, 3) := by decide +kernel
theorem dX4_reverse_66 : decode cX4_reverse 66 = .ok (.iconst 3, 1) := by decide +kernel
theorem dX4_reverse_67 : decode cX4_reverse 67 = .ok (.goto 4, 3) := by decide +kernel
theorem dX4_reverse_70 : decode cX4_reverse 70 = .ok (.iconst 0, 1) := by decide +kernel
theorem dX4_reverse_71 : decode cX4_reverse 71 = .ok (.putfield 65, 3) := by decide +kernel
theorem dX4_reverse_74 : decode cX4_reverse 74 = .ok (.aload_n 0, 1) := by decide +kernel
theorem dX4_reverse_75 : decode cX4_reverse 75 = .ok (.getfield 65, 3) := by decide +kernel
theorem dX4_reverse_78 : decode cX4_reverse 78 = .ok (.ifCond .le 5, 3) := by decide +kernel
theorem dX4_reverse_81 : decode cX4_reverse 81 = .ok (.iconst 0, 1) := by decide +kernel
theorem dX4_reverse_82 : decode cX4_reverse 82 = .ok (.ireturn, 1) := by decide +kernel
theorem dX4_reverse_83 : decode cX4_reverse 83 = .ok (.aload_n 0, 1) := by decide +kernel
theorem dX4_reverse_84 : decode cX4_reverse 84 = .ok (.aload_n 0, 1) := by decide +kernel
theorem dX4_reverse_85 : decode cX4_reverse 85 = .ok (.getfield 33, 3) := by decide +kernel
theorem dX4_reverse_88 : decode cX4_reverse 88 = .ok (.iload_n 2, 1) := by decide +kernel
theorem dX4_reverse_89 : decode cX4_reverse 89 = .ok (.iaload, 1) := by decide +kernel
theorem dX4_reverse_90 : decode cX4_reverse 90 = .ok (.aload_n 0, 1) := by decide +kernel
theorem dX4_reverse_91 : decode cX4_reverse 91 = .ok (.getfield 36, 3) := by decide +kernel
theorem dX4_reverse_94 : decode cX4_reverse 94 = .ok (.iload_n 2, 1) := by decide +kernel
theorem dX4_reverse_95 : decode cX4_reverse 95 = .ok (.laload, 1) := by decide +kernel
theorem dX4_reverse_96 : decode cX4_reverse 96 = .ok (.iload_n 1, 1) := by decide +kernel
theorem dX4_reverse_97 : decode cX4_reverse 97 = .ok (.iconst (-1), 1) := by decide +kernel
theorem dX4_reverse_98 : decode cX4_reverse 98 = .ok (.iload_n 2, 1) := by decide +kernel
theorem dX4_reverse_99 : decode cX4_reverse 99 = .ok (.invokevirtual 133, 3) := by decide +kernel
theorem dX4_reverse_102 : decode cX4_reverse 102 = .ok (.istore_n 3, 1) := by decide +kernel
theorem dX4_reverse_103 : decode cX4_reverse 103 = .ok (.aload_n 0, 1) := by decide +kernel
theorem dX4_reverse_104 : decode cX4_reverse 104 = .ok (.iload_n 3, 1) := by decide +kernel
theorem dX4_reverse_105 : decode cX4_reverse 105 = .ok (.ifCond .ge 7, 3) := by decide +kernel
theorem dX4_reverse_108 : decode cX4_reverse 108 = .ok (.iconst 3, 1) := by decide +kernel
theorem dX4_reverse_109 : decode cX4_reverse 109 = .ok (.goto 4, 3) := by decide +kernel
theorem dX4_reverse_112 : decode cX4_reverse 112 = .ok (.iconst 0, 1) := by decide +kernel
theorem dX4_reverse_113 : decode cX4_reverse 113 = .ok (.putfield 65, 3) := by decide +kernel
theorem dX4_reverse_116 : decode cX4_reverse 116 = .ok (.iload_n 3, 1) := by decide +kernel
theorem dX4_reverse_117 : decode cX4_reverse 117 = .ok (.ifCond .ge 7, 3) := by decide +kernel
theorem dX4_reverse_120 : decode cX4_reverse 120 = .ok (.iconst 0, 1) := by decide +kernel
theorem dX4_reverse_121 : decode cX4_reverse 121 = .ok (.goto 4, 3) := by decide +kernel
theorem dX4_reverse_124 : decode cX4_reverse 124 = .ok (.iload_n 3, 1) := by decide +kernel
theorem dX4_reverse_125 : decode cX4_reverse 125 = .ok (.ireturn, 1) := by decide +kernel
theorem dX4_tamper_0 : decode cX4_tamper 0 = .ok (.aload_n 0, 1) := by decide +kernel
theorem dX4_tamper_1 : decode cX4_tamper 1 = .ok (.iload_n 1, 1) := by decide +kernel
theorem dX4_tamper_2 : decode cX4_tamper 2 = .ok (.invokestatic 72, 3) := by decide +kernel
theorem dX4_tamper_5 : decode cX4_tamper 5 = .ok (.ifCond .ne 7, 3) := by decide +kernel
theorem dX4_tamper_8 : decode cX4_tamper 8 = .ok (.iconst 1, 1) := by decide +kernel
theorem dX4_tamper_9 : decode cX4_tamper 9 = .ok (.goto 24, 3) := by decide +kernel
theorem dX4_tamper_12 : decode cX4_tamper 12 = .ok (.lload_n 2, 1) := by decide +kernel
theorem dX4_tamper_13 : decode cX4_tamper 13 = .ok (.ldc2_w 146, 3) := by decide +kernel
theorem dX4_tamper_16 : decode cX4_tamper 16 = .ok (.lcmp, 1) := by decide +kernel
theorem dX4_tamper_17 : decode cX4_tamper 17 = .ok (.ifCond .lt 11, 3) := by decide +kernel
theorem dX4_tamper_20 : decode cX4_tamper 20 = .ok (.lload_n 2, 1) := by decide +kernel
theorem dX4_tamper_21 : decode cX4_tamper 21 = .ok (.ldc2_w 148, 3) := by decide +kernel
theorem dX4_tamper_24 : decode cX4_tamper 24 = .ok (.lcmp, 1) := by decide +kernel
theorem dX4_tamper_25 : decode cX4_tamper 25 = .ok (.ifCond .le 7, 3) := by decide +kernel
theorem dX4_tamper_28 : decode cX4_tamper 28 = .ok (.iconst 2, 1) := by decide +kernel
theorem dX4_tamper_29 : decode cX4_tamper 29 = .ok (.goto 4, 3) := by decide +kernel
theorem dX4_tamper_32 : decode cX4_tamper 32 = .ok (.iconst 0, 1) := by decide +kernel
theorem dX4_tamper_33 : decode cX4_tamper 33 = .ok (.putfield 65, 3) := by decide +kernel
theorem dX4_tamper_36 : decode cX4_tamper 36 = .ok (.aload_n 0, 1) := by decide +kernel
theorem dX4_tamper_37 : decode cX4_tamper 37 = .ok (.getfield 65, 3) := by decide +kernel
theorem dX4_tamper_40 : decode cX4_tamper 40 = .ok (.ifCond .ne 38, 3) := by decide +kernel
theorem dX4_tamper_43 : decode cX4_tamper 43 = .ok (.aload_n 0, 1) := by decide +kernel
theorem dX4_tamper_44 : decode cX4_tamper 44 = .ok (.getfield 7, 3) := by decide +kernel
theorem dX4_tamper_47 : decode cX4_tamper 47 = .ok (.iload_n 1, 1) := by decide +kernel
theorem dX4_tamper_48 : decode cX4_tamper 48 = .ok (.laload, 1) := by decide +kernel
theorem dX4_tamper_49 : decode cX4_tamper 49 = .ok (.lload_n 2, 1) := by decide +kernel
theorem dX4_tamper_50 : decode cX4_tamper 50 = .ok (.ladd, 1) := by decide +kernel
theorem dX4_tamper_51 : decode cX4_tamper 51 = .ok (.ldc2_w 96, 3) := by decide +kernel
theorem dX4_tamper_54 : decode cX4_tamper 54 = .ok (.lcmp, 1) := by decide +kernel
theorem dX4_tamper_55 : decode cX4_tamper 55 = .ok (.ifCond .gt 18, 3) := by decide +kernel
theorem dX4_tamper_58 : decode cX4_tamper 58 = .ok (.aload_n 0, 1) := by decide +kernel
theorem dX4_tamper_59 : decode cX4_tamper 59 = .ok (.getfield 7, 3) := by decide +kernel
theorem dX4_tamper_62 : decode cX4_tamper 62 = .ok (.iload_n 1, 1) := by decide +kernel
theorem dX4_tamper_63 : decode cX4_tamper 63 = .ok (.laload, 1) := by decide +kernel
theorem dX4_tamper_64 : decode cX4_tamper 64 = .ok (.lload_n 2, 1) := by decide +kernel
theorem dX4_tamper_65 : decode cX4_tamper 65 = .ok (.ladd, 1) := by decide +kernel
theorem dX4_tamper_66 : decode cX4_tamper 66 = .ok (.ldc2_w 63, 3) := by decide +kernel
theorem dX4_tamper_69 : decode cX4_tamper 69 = .ok (.lcmp, 1) := by decide +kernel
theorem dX4_tamper_70 : decode cX4_tamper 70 = .ok (.ifCond .ge 8, 3) := by decide +kernel
theorem dX4_tamper_73 : decode cX4_tamper 73 = .ok (.aload_n 0, 1) := by decide +kernel
theorem dX4_tamper_74 : decode cX4_tamper 74 = .ok (.iconst 3, 1) := by decide +kernel
theorem dX4_tamper_75 : decode cX4_tamper 75 = .ok (.putfield 65, 3) := by decide +kernel
theorem dX4_tamper_78 : decode cX4_tamper 78 = .ok (.aload_n 0, 1) := by decide +kernel
theorem dX4_tamper_79 : decode cX4_tamper 79 = .ok (.getfield 65, 3) := by decide +kernel
theorem dX4_tamper_82 : decode cX4_tamper 82 = .ok (.ifCond .le 5, 3) := by decide +kernel
theorem dX4_tamper_85 : decode cX4_tamper 85 = .ok (.lconst 0, 1) := by decide +kernel
theorem dX4_tamper_86 : decode cX4_tamper 86 = .ok (.lreturn, 1) := by decide +kernel
theorem dX4_tamper_87 : decode cX4_tamper 87 = .ok (.aload_n 0, 1) := by decide +kernel
theorem dX4_tamper_88 : decode cX4_tamper 88 = .ok (.getfield 7, 3) := by decide +kernel
theorem dX4_tamper_91 : decode cX4_tamper 91 = .ok (.iload_n 1, 1) := by decide +kernel
theorem dX4_tamper_92 : decode cX4_tamper 92 = .ok (.aload_n 0, 1) := by decide +kernel
theorem dX4_tamper_93 : decode cX4_tamper 93 = .ok (.getfield 7, 3) := by decide +kernel
theorem dX4_tamper_96 : decode cX4_tamper 96 = .ok (.iload_n 1, 1) := by decide +kernel
theorem dX4_tamper_97 : decode cX4_tamper 97 = .ok (.laload, 1) := by decide +kernel
theorem dX4_tamper_98 : decode cX4_tamper 98 = .ok (.lload_n 2, 1) := by decide +kernel
theorem dX4_tamper_99 : decode cX4_tamper 99 = .ok (.ladd, 1) := by decide +kernel
theorem dX4_tamper_100 : decode cX4_tamper 100 = .ok (.lastore, 1) := by decide +kernel
theorem dX4_tamper_101 : decode cX4_tamper 101 = .ok (.aload_n 0, 1) := by decide +kernel
theorem dX4_tamper_102 : decode cX4_tamper 102 = .ok (.getfield 7, 3) := by decide +kernel
theorem dX4_tamper_105 : decode cX4_tamper 105 = .ok (.iload_n 1, 1) := by decide +kernel
theorem dX4_tamper_106 : decode cX4_tamper 106 = .ok (.laload, 1) := by decide +kernel
theorem dX4_tamper_107 : decode cX4_tamper 107 = .ok (.lreturn, 1) := by decide +kernel
theorem dX4_restore_0 : decode cX4_restore 0 = .ok (.aload_n 0, 1) := by decide +kernel
theorem dX4_restore_1 : decode cX4_restore 1 = .ok (.iload_n 1, 1) := by decide +kernel
theorem dX4_restore_2 : decode cX4_restore 2 = .ok (.invokestatic 72, 3) := by decide +kernel
theorem dX4_restore_5 : decode cX4_restore 5 = .ok (.ifCond .ne 7, 3) := by decide +kernel
theorem dX4_restore_8 : decode cX4_restore 8 = .ok (.iconst 1, 1) := by decide +kernel
theorem dX4_restore_9 : decode cX4_restore 9 = .ok (.goto 15, 3) := by decide +kernel
theorem dX4_restore_12 : decode cX4_restore 12 = .ok (.iload_n 1, 1) := by decide +kernel
theorem dX4_restore_13 : decode cX4_restore 13 = .ok (.invokestatic 86, 3) := by decide +kernel
theorem dX4_restore_16 : decode cX4_restore 16 = .ok (.ifCond .ne 7, 3) := by decide +kernel
theorem dX4_restore_19 : decode cX4_restore 19 = .ok (.iconst 2, 1) := by decide +kernel
theorem dX4_restore_20 : decode cX4_restore 20 = .ok (.goto 4, 3) := by decide +kernel
theorem dX4_restore_23 : decode cX4_restore 23 = .ok (.iconst 0, 1) := by decide +kernel
theorem dX4_restore_24 : decode cX4_restore 24 = .ok (.putfield 65, 3) := by decide +kernel
theorem dX4_restore_27 : decode cX4_restore 27 = .ok (.aload_n 0, 1) := by decide +kernel
theorem dX4_restore_28 : decode cX4_restore 28 = .ok (.getfield 65, 3) := by decide +kernel
theorem dX4_restore_31 : decode cX4_restore 31 = .ok (.ifCond .le 5, 3) := by decide +kernel
theorem dX4_restore_34 : decode cX4_restore 34 = .ok (.iconst 0, 1) := by decide +kernel
theorem dX4_restore_35 : decode cX4_restore 35 = .ok (.ireturn, 1) := by decide +kernel
theorem dX4_restore_36 : decode cX4_restore 36 = .ok (.iconst 0, 1) := by decide +kernel
theorem dX4_restore_37 : decode cX4_restore 37 = .ok (.istore_n 2, 1) := by decide +kernel
theorem dX4_restore_38 : decode cX4_restore 38 = .ok (.iconst 0, 1) := by decide +kernel
theorem dX4_restore_39 : decode cX4_restore 39 = .ok (.istore_n 3, 1) := by decide +kernel
theorem dX4_restore_40 : decode cX4_restore 40 = .ok (.iload_n 3, 1) := by decide +kernel
theorem dX4_restore_41 : decode cX4_restore 41 = .ok (.bipush 8, 2) := by decide +kernel
theorem dX4_restore_43 : decode cX4_restore 43 = .ok (.if_icmp .ge 48, 3) := by decide +kernel
theorem dX4_restore_46 : decode cX4_restore 46 = .ok (.aload_n 0, 1) := by decide +kernel
theorem dX4_restore_47 : decode cX4_restore 47 = .ok (.iload_n 3, 1) := by decide +kernel
theorem dX4_restore_48 : decode cX4_restore 48 = .ok (.aload_n 0, 1) := by decide +kernel
theorem dX4_restore_49 : decode cX4_restore 49 = .ok (.getfield 104, 3) := by decide +kernel
theorem dX4_restore_52 : decode cX4_restore 52 = .ok (.invokevirtual 107, 3) := by decide +kernel
theorem dX4_restore_55 : decode cX4_restore 55 = .ok (.lstore 4, 2) := by decide +kernel
theorem dX4_restore_57 : decode cX4_restore 57 = .ok (.aload_n 0, 1) := by decide +kernel
theorem dX4_restore_58 : decode cX4_restore 58 = .ok (.getfield 7, 3) := by decide +kernel
theorem dX4_restore_61 : decode cX4_restore 61 = .ok (.iload_n 3, 1) := by decide +kernel
theorem dX4_restore_62 : decode cX4_restore 62 = .ok (.laload, 1) := by decide +kernel
theorem dX4_restore_63 : decode cX4_restore 63 = .ok (.lload 4, 2) := by decide +kernel
theorem dX4_restore_65 : decode cX4_restore 65 = .ok (.lcmp, 1) := by decide +kernel
theorem dX4_restore_66 : decode cX4_restore 66 = .ok (.ifCond .eq 9, 3) := by decide +kernel
theorem dX4_restore_69 : decode cX4_restore 69 = .ok (.iload_n 2, 1) := by decide +kernel
theorem dX4_restore_70 : decode cX4_restore 70 = .ok (.iconst 1, 1) := by decide +kernel
theorem dX4_restore_71 : decode cX4_restore 71 = .ok (.iadd, 1) := by decide +kernel
theorem dX4_restore_72 : decode cX4_restore 72 = .ok (.goto 4, 3) := by decide +kernel
theorem dX4_restore_75 : decode cX4_restore 75 = .ok (.iload_n 2, 1) := by decide +kernel
theorem dX4_restore_76 : decode cX4_restore 76 = .ok (.istore_n 2, 1) := by decide +kernel
theorem dX4_restore_77 : decode cX4_restore 77 = .ok (.aload_n 0, 1) := by decide +kernel
theorem dX4_restore_78 : decode cX4_restore 78 = .ok (.getfield 7, 3) := by decide +kernel
theorem dX4_restore_81 : decode cX4_restore 81 = .ok (.iload_n 3, 1) := by decide +kernel
theorem dX4_restore_82 : decode cX4_restore 82 = .ok (.lload 4, 2) := by decide +kernel
theorem dX4_restore_84 : decode cX4_restore 84 = .ok (.lastore, 1) := by decide +kernel
theorem dX4_restore_85 : decode cX4_restore 85 = .ok (.iinc 3 1, 3) := by decide +kernel
theorem dX4_restore_88 : decode cX4_restore 88 = .ok (.goto (-48), 3) := by decide +kernel
theorem dX4_restore_91 : decode cX4_restore 91 = .ok (.iload_n 2, 1) := by decide +kernel
theorem dX4_restore_92 : decode cX4_restore 92 = .ok (.ireturn, 1) := by decide +kernel
theorem dX4_balance_0 : decode cX4_balance 0 = .ok (.aload_n 0, 1) := by decide +kernel
theorem dX4_balance_1 : decode cX4_balance 1 = .ok (.iload_n 1, 1) := by decide +kernel
theorem dX4_balance_2 : decode cX4_balance 2 = .ok (.invokestatic 72, 3) := by decide +kernel
theorem dX4_balance_5 : decode cX4_balance 5 = .ok (.ifCond .eq 7, 3) := by decide +kernel
theorem dX4_balance_8 : decode cX4_balance 8 = .ok (.iconst 0, 1) := by decide +kernel
theorem dX4_balance_9 : decode cX4_balance 9 = .ok (.goto 4, 3) := by decide +kernel
theorem dX4_balance_12 : decode cX4_balance 12 = .ok (.iconst 1, 1) := by decide +kernel
theorem dX4_balance_13 : decode cX4_balance 13 = .ok (.putfield 65, 3) := by decide +kernel
theorem dX4_balance_16 : decode cX4_balance 16 = .ok (.aload_n 0, 1) := by decide +kernel
theorem dX4_balance_17 : decode cX4_balance 17 = .ok (.getfield 65, 3) := by decide +kernel
theorem dX4_balance_20 : decode cX4_balance 20 = .ok (.ifCond .le 7, 3) := by decide +kernel
theorem dX4_balance_23 : decode cX4_balance 23 = .ok (.lconst 0, 1) := by decide +kernel
theorem dX4_balance_24 : decode cX4_balance 24 = .ok (.goto 9, 3) := by decide +kernel
theorem dX4_balance_27 : decode cX4_balance 27 = .ok (.aload_n 0, 1) := by decide +kernel
theorem dX4_balance_28 : decode cX4_balance 28 = .ok (.getfield 7, 3) := by decide +kernel
theorem dX4_balance_31 : decode cX4_balance 31 = .ok (.iload_n 1, 1) := by decide +kernel
theorem dX4_balance_32 : decode cX4_balance 32 = .ok (.laload, 1) := by decide +kernel
theorem dX4_balance_33 : decode cX4_balance 33 = .ok (.lreturn, 1) := by decide +kernel
theorem dX4_balanceAt_0 : decode cX4_balanceAt 0 = .ok (.aload_n 0, 1) := by decide +kernel
theorem dX4_balanceAt_1 : decode cX4_balanceAt 1 = .ok (.iload_n 1, 1) := by decide +kernel
theorem dX4_balanceAt_2 : decode cX4_balanceAt 2 = .ok (.invokestatic 72, 3) := by decide +kernel
theorem dX4_balanceAt_5 : decode cX4_balanceAt 5 = .ok (.ifCond .eq 19, 3) := by decide +kernel
theorem dX4_balanceAt_8 : decode cX4_balanceAt 8 = .ok (.iload_n 2, 1) := by decide +kernel
theorem dX4_balanceAt_9 : decode cX4_balanceAt 9 = .ok (.ifCond .lt 15, 3) := by decide +kernel
theorem dX4_balanceAt_12 : decode cX4_balanceAt 12 = .ok (.iload_n 2, 1) := by decide +kernel
theorem dX4_balanceAt_13 : decode cX4_balanceAt 13 = .ok (.aload_n 0, 1) := by decide +kernel
theorem dX4_balanceAt_14 : decode cX4_balanceAt 14 = .ok (.getfield 104, 3) := by decide +kernel
theorem dX4_balanceAt_17 : decode cX4_balanceAt 17 = .ok (.if_icmp .gt 7, 3) := by decide +kernel
theorem dX4_balanceAt_20 : decode cX4_balanceAt 20 = .ok (.iconst 0, 1) := by decide +kernel
theorem dX4_balanceAt_21 : decode cX4_balanceAt 21 = .ok (.goto 4, 3) := by decide +kernel
theorem dX4_balanceAt_24 : decode cX4_balanceAt 24 = .ok (.iconst 1, 1) := by decide +kernel
theorem dX4_balanceAt_25 : decode cX4_balanceAt 25 = .ok (.putfield 65, 3) := by decide +kernel
theorem dX4_balanceAt_28 : decode cX4_balanceAt 28 = .ok (.aload_n 0, 1) := by decide +kernel
theorem dX4_balanceAt_29 : decode cX4_balanceAt 29 = .ok (.getfield 65, 3) := by decide +kernel
theorem dX4_balanceAt_32 : decode cX4_balanceAt 32 = .ok (.ifCond .le 7, 3) := by decide +kernel
theorem dX4_balanceAt_35 : decode cX4_balanceAt 35 = .ok (.lconst 0, 1) := by decide +kernel
theorem dX4_balanceAt_36 : decode cX4_balanceAt 36 = .ok (.goto 9, 3) := by decide +kernel
theorem dX4_balanceAt_39 : decode cX4_balanceAt 39 = .ok (.aload_n 0, 1) := by decide +kernel
theorem dX4_balanceAt_40 : decode cX4_balanceAt 40 = .ok (.iload_n 1, 1) := by decide +kernel
theorem dX4_balanceAt_41 : decode cX4_balanceAt 41 = .ok (.iload_n 2, 1) := by decide +kernel
theorem dX4_balanceAt_42 : decode cX4_balanceAt 42 = .ok (.invokevirtual 107, 3) := by decide +kernel
theorem dX4_balanceAt_45 : decode cX4_balanceAt 45 = .ok (.lreturn, 1) := by decide +kernel
theorem dX4_entries_0 : decode cX4_entries 0 = .ok (.aload_n 0, 1) := by decide +kernel
theorem dX4_entries_1 : decode cX4_entries 1 = .ok (.iconst 0, 1) := by decide +kernel
theorem dX4_entries_2 : decode cX4_entries 2 = .ok (.putfield 65, 3) := by decide +kernel
theorem dX4_entries_5 : decode cX4_entries 5 = .ok (.aload_n 0, 1) := by decide +kernel
theorem dX4_entries_6 : decode cX4_entries 6 = .ok (.getfield 104, 3) := by decide +kernel
theorem dX4_entries_9 : decode cX4_entries 9 = .ok (.ireturn, 1) := by decide +kernel
theorem dX4_entry_0 : decode cX4_entry 0 = .ok (.aload_n 0, 1) := by decide +kernel
theorem dX4_entry_1 : decode cX4_entry 1 = .ok (.aload_n 0, 1) := by decide +kernel
theorem dX4_entry_2 : decode cX4_entry 2 = .ok (.iload_n 1, 1) := by decide +kernel
theorem dX4_entry_3 : decode cX4_entry 3 = .ok (.invokevirtual 143, 3) := by decide +kernel
theorem dX4_entry_6 : decode cX4_entry 6 = .ok (.ifCond .eq 16, 3) := by decide +kernel
theorem dX4_entry_9 : decode cX4_entry 9 = .ok (.iload_n 2, 1) := by decide +kernel
theorem dX4_entry_10 : decode cX4_entry 10 = .ok (.ifCond .lt 12, 3) := by decide +kernel
theorem dX4_entry_13 : decode cX4_entry 13 = .ok (.iload_n 2, 1) := by decide +kernel
theorem dX4_entry_14 : decode cX4_entry 14 = .ok (.iconst 4, 1) := by decide +kernel
theorem dX4_entry_15 : decode cX4_entry 15 = .ok (.if_icmp .gt 7, 3) := by decide +kernel
theorem dX4_entry_18 : decode cX4_entry 18 = .ok (.iconst 0, 1) := by decide +kernel
theorem dX4_entry_19 : decode cX4_entry 19 = .ok (.goto 4, 3) := by decide +kernel
theorem dX4_entry_22 : decode cX4_entry 22 = .ok (.iconst 1, 1) := by decide +kernel
theorem dX4_entry_23 : decode cX4_entry 23 = .ok (.putfield 65, 3) := by decide +kernel
theorem dX4_entry_26 : decode cX4_entry 26 = .ok (.aload_n 0, 1) := by decide +kernel
theorem dX4_entry_27 : decode cX4_entry 27 = .ok (.getfield 65, 3) := by decide +kernel
theorem dX4_entry_30 : decode cX4_entry 30 = .ok (.ifCond .le 5, 3) := by decide +kernel
theorem dX4_entry_33 : decode cX4_entry 33 = .ok (.iconst 0, 1) := by decide +kernel
theorem dX4_entry_34 : decode cX4_entry 34 = .ok (.ireturn, 1) := by decide +kernel
theorem dX4_entry_35 : decode cX4_entry 35 = .ok (.iload_n 2, 1) := by decide +kernel
theorem dX4_entry_36 : decode cX4_entry 36 = .ok (.ifCond .ne 12, 3) := by decide +kernel
theorem dX4_entry_39 : decode cX4_entry 39 = .ok (.aload_n 0, 1) := by decide +kernel
theorem dX4_entry_40 : decode cX4_entry 40 = .ok (.getfield 33, 3) := by decide +kernel
theorem dX4_entry_43 : decode cX4_entry 43 = .ok (.iload_n 1, 1) := by decide +kernel
theorem dX4_entry_44 : decode cX4_entry 44 = .ok (.iaload, 1) := by decide +kernel
theorem dX4_entry_45 : decode cX4_entry 45 = .ok (.goto 51, 3) := by decide +kernel
theorem dX4_entry_48 : decode cX4_entry 48 = .ok (.iload_n 2, 1) := by decide +kernel
theorem dX4_entry_49 : decode cX4_entry 49 = .ok (.iconst 1, 1) := by decide +kernel
theorem dX4_entry_50 : decode cX4_entry 50 = .ok (.if_icmp .ne 12, 3) := by decide +kernel
theorem dX4_entry_53 : decode cX4_entry 53 = .ok (.aload_n 0, 1) := by decide +kernel
theorem dX4_entry_54 : decode cX4_entry 54 = .ok (.getfield 39, 3) := by decide +kernel
theorem dX4_entry_57 : decode cX4_entry 57 = .ok (.iload_n 1, 1) := by decide +kernel
theorem dX4_entry_58 : decode cX4_entry 58 = .ok (.iaload, 1) := by decide +kernel
theorem dX4_entry_59 : decode cX4_entry 59 = .ok (.goto 37, 3) := by decide +kernel
theorem dX4_entry_62 : decode cX4_entry 62 = .ok (.iload_n 2, 1) := by decide +kernel
theorem dX4_entry_63 : decode cX4_entry 63 = .ok (.iconst 2, 1) := by decide +kernel
theorem dX4_entry_64 : decode cX4_entry 64 = .ok (.if_icmp .ne 12, 3) := by decide +kernel
theorem dX4_entry_67 : decode cX4_entry 67 = .ok (.aload_n 0, 1) := by decide +kernel
theorem dX4_entry_68 : decode cX4_entry 68 = .ok (.getfield 42, 3) := by decide +kernel
theorem dX4_entry_71 : decode cX4_entry 71 = .ok (.iload_n 1, 1) := by decide +kernel
theorem dX4_entry_72 : decode cX4_entry 72 = .ok (.iaload, 1) := by decide +kernel
theorem dX4_entry_73 : decode cX4_entry 73 = .ok (.goto 23, 3) := by decide +kernel
theorem dX4_entry_76 : decode cX4_entry 76 = .ok (.iload_n 2, 1) := by decide +kernel
theorem dX4_entry_77 : decode cX4_entry 77 = .ok (.iconst 3, 1) := by decide +kernel
theorem dX4_entry_78 : decode cX4_entry 78 = .ok (.if_icmp .ne 12, 3) := by decide +kernel
theorem dX4_entry_81 : decode cX4_entry 81 = .ok (.aload_n 0, 1) := by decide +kernel
theorem dX4_entry_82 : decode cX4_entry 82 = .ok (.getfield 45, 3) := by decide +kernel
theorem dX4_entry_85 : decode cX4_entry 85 = .ok (.iload_n 1, 1) := by decide +kernel
theorem dX4_entry_86 : decode cX4_entry 86 = .ok (.iaload, 1) := by decide +kernel
theorem dX4_entry_87 : decode cX4_entry 87 = .ok (.goto 9, 3) := by decide +kernel
theorem dX4_entry_90 : decode cX4_entry 90 = .ok (.aload_n 0, 1) := by decide +kernel
theorem dX4_entry_91 : decode cX4_entry 91 = .ok (.getfield 48, 3) := by decide +kernel
theorem dX4_entry_94 : decode cX4_entry 94 = .ok (.iload_n 1, 1) := by decide +kernel
theorem dX4_entry_95 : decode cX4_entry 95 = .ok (.iaload, 1) := by decide +kernel
theorem dX4_entry_96 : decode cX4_entry 96 = .ok (.ireturn, 1) := by decide +kernel
theorem dX4_amount_0 : decode cX4_amount 0 = .ok (.aload_n 0, 1) := by decide +kernel
theorem dX4_amount_1 : decode cX4_amount 1 = .ok (.aload_n 0, 1) := by decide +kernel
theorem dX4_amount_2 : decode cX4_amount 2 = .ok (.iload_n 1, 1) := by decide +kernel
theorem dX4_amount_3 : decode cX4_amount 3 = .ok (.invokevirtual 143, 3) := by decide +kernel
theorem dX4_amount_6 : decode cX4_amount 6 = .ok (.ifCond .eq 7, 3) := by decide +kernel
theorem dX4_amount_9 : decode cX4_amount 9 = .ok (.iconst 0, 1) := by decide +kernel
theorem dX4_amount_10 : decode cX4_amount 10 = .ok (.goto 4, 3) := by decide +kernel
theorem dX4_amount_13 : decode cX4_amount 13 = .ok (.iconst 1, 1) := by decide +kernel
theorem dX4_amount_14 : decode cX4_amount 14 = .ok (.putfield 65, 3) := by decide +kernel
theorem dX4_amount_17 : decode cX4_amount 17 = .ok (.aload_n 0, 1) := by decide +kernel
theorem dX4_amount_18 : decode cX4_amount 18 = .ok (.getfield 65, 3) := by decide +kernel
theorem dX4_amount_21 : decode cX4_amount 21 = .ok (.ifCond .le 7, 3) := by decide +kernel
theorem dX4_amount_24 : decode cX4_amount 24 = .ok (.lconst 0, 1) := by decide +kernel
theorem dX4_amount_25 : decode cX4_amount 25 = .ok (.goto 9, 3) := by decide +kernel
theorem dX4_amount_28 : decode cX4_amount 28 = .ok (.aload_n 0, 1) := by decide +kernel
theorem dX4_amount_29 : decode cX4_amount 29 = .ok (.getfield 36, 3) := by decide +kernel
theorem dX4_amount_32 : decode cX4_amount 32 = .ok (.iload_n 1, 1) := by decide +kernel
theorem dX4_amount_33 : decode cX4_amount 33 = .ok (.laload, 1) := by decide +kernel
theorem dX4_amount_34 : decode cX4_amount 34 = .ok (.lreturn, 1) := by decide +kernel
theorem dX4_requested_0 : decode cX4_requested 0 = .ok (.aload_n 0, 1) := by decide +kernel
theorem dX4_requested_1 : decode cX4_requested 1 = .ok (.iload_n 1, 1) := by decide +kernel
theorem dX4_requested_2 : decode cX4_requested 2 = .ok (.ifCond .lt 13, 3) := by decide +kernel
theorem dX4_requested_5 : decode cX4_requested 5 = .ok (.iload_n 1, 1) := by decide +kernel
theorem dX4_requested_6 : decode cX4_requested 6 = .ok (.bipush 6, 2) := by decide +kernel
theorem dX4_requested_8 : decode cX4_requested 8 = .ok (.if_icmp .ge 7, 3) := by decide +kernel
theorem dX4_requested_11 : decode cX4_requested 11 = .ok (.iconst 0, 1) := by decide +kernel
theorem dX4_requested_12 : decode cX4_requested 12 = .ok (.goto 4, 3) := by decide +kernel
theorem dX4_requested_15 : decode cX4_requested 15 = .ok (.iconst 1, 1) := by decide +kernel
theorem dX4_requested_16 : decode cX4_requested 16 = .ok (.putfield 65, 3) := by decide +kernel
theorem dX4_requested_19 : decode cX4_requested 19 = .ok (.aload_n 0, 1) := by decide +kernel
theorem dX4_requested_20 : decode cX4_requested 20 = .ok (.getfield 65, 3) := by decide +kernel
theorem dX4_requested_23 : decode cX4_requested 23 = .ok (.ifCond .le 7, 3) := by decide +kernel
theorem dX4_requested_26 : decode cX4_requested 26 = .ok (.iconst 0, 1) := by decide +kernel
theorem dX4_requested_27 : decode cX4_requested 27 = .ok (.goto 9, 3) := by decide +kernel
theorem dX4_requested_30 : decode cX4_requested 30 = .ok (.aload_n 0, 1) := by decide +kernel
theorem dX4_requested_31 : decode cX4_requested 31 = .ok (.getfield 51, 3) := by decide +kernel
theorem dX4_requested_34 : decode cX4_requested 34 = .ok (.iload_n 1, 1) := by decide +kernel
theorem dX4_requested_35 : decode cX4_requested 35 = .ok (.iaload, 1) := by decide +kernel
theorem dX4_requested_36 : decode cX4_requested 36 = .ok (.ireturn, 1) := by decide +kernel
