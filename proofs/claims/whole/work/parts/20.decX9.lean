theorem dX9_init_0 : decode cX9_init 0 = .ok (.aload_n 0, 1) := by decide +kernel
theorem dX9_init_1 : decode cX9_init 1 = .ok (.invokespecial 1, 3) := by decide +kernel
theorem dX9_init_4 : decode cX9_init 4 = .ok (.aload_n 0, 1) := by decide +kernel
theorem dX9_init_5 : decode cX9_init 5 = .ok (.bipush 11, 2) := by decide +kernel
theorem dX9_init_7 : decode cX9_init 7 = .ok (.newarray .int, 2) := by decide +kernel
theorem dX9_init_9 : decode cX9_init 9 = .ok (.putfield 7, 3) := by decide +kernel
theorem dX9_init_12 : decode cX9_init 12 = .ok (.aload_n 0, 1) := by decide +kernel
theorem dX9_init_13 : decode cX9_init 13 = .ok (.sipush 165, 3) := by decide +kernel
theorem dX9_init_16 : decode cX9_init 16 = .ok (.newarray .int, 2) := by decide +kernel
theorem dX9_init_18 : decode cX9_init 18 = .ok (.putfield 13, 3) := by decide +kernel
theorem dX9_init_21 : decode cX9_init 21 = .ok (.aload_n 0, 1) := by decide +kernel
theorem dX9_init_22 : decode cX9_init 22 = .ok (.sipush 165, 3) := by decide +kernel
theorem dX9_init_25 : decode cX9_init 25 = .ok (.newarray .int, 2) := by decide +kernel
theorem dX9_init_27 : decode cX9_init 27 = .ok (.putfield 16, 3) := by decide +kernel
theorem dX9_init_30 : decode cX9_init 30 = .ok (.aload_n 0, 1) := by decide +kernel
theorem dX9_init_31 : decode cX9_init 31 = .ok (.bipush 11, 2) := by decide +kernel
theorem dX9_init_33 : decode cX9_init 33 = .ok (.newarray .boolean, 2) := by decide +kernel
theorem dX9_init_35 : decode cX9_init 35 = .ok (.putfield 19, 3) := by decide +kernel
theorem dX9_init_38 : decode cX9_init 38 = .ok (.aload_n 0, 1) := by decide +kernel
theorem dX9_init_39 : decode cX9_init 39 = .ok (.sipush 520, 3) := by decide +kernel
theorem dX9_init_42 : decode cX9_init 42 = .ok (.newarray .int, 2) := by decide +kernel
theorem dX9_init_44 : decode cX9_init 44 = .ok (.putfield 23, 3) := by decide +kernel
theorem dX9_init_47 : decode cX9_init 47 = .ok (.aload_n 0, 1) := by decide +kernel
theorem dX9_init_48 : decode cX9_init 48 = .ok (.sipush 520, 3) := by decide +kernel
theorem dX9_init_51 : decode cX9_init 51 = .ok (.newarray .int, 2) := by decide +kernel
theorem dX9_init_53 : decode cX9_init 53 = .ok (.putfield 26, 3) := by decide +kernel
theorem dX9_init_56 : decode cX9_init 56 = .ok (.aload_n 0, 1) := by decide +kernel
theorem dX9_init_57 : decode cX9_init 57 = .ok (.sipush 520, 3) := by decide +kernel
theorem dX9_init_60 : decode cX9_init 60 = .ok (.newarray .int, 2) := by decide +kernel
theorem dX9_init_62 : decode cX9_init 62 = .ok (.putfield 29, 3) := by decide +kernel
theorem dX9_init_65 : decode cX9_init 65 = .ok (.aload_n 0, 1) := by decide +kernel
theorem dX9_init_66 : decode cX9_init 66 = .ok (.sipush 520, 3) := by decide +kernel
theorem dX9_init_69 : decode cX9_init 69 = .ok (.newarray .int, 2) := by decide +kernel
theorem dX9_init_71 : decode cX9_init 71 = .ok (.putfield 32, 3) := by decide +kernel
theorem dX9_init_74 : decode cX9_init 74 = .ok (.aload_n 0, 1) := by decide +kernel
theorem dX9_init_75 : decode cX9_init 75 = .ok (.sipush 520, 3) := by decide +kernel
theorem dX9_init_78 : decode cX9_init 78 = .ok (.newarray .boolean, 2) := by decide +kernel
theorem dX9_init_80 : decode cX9_init 80 = .ok (.putfield 35, 3) := by decide +kernel
theorem dX9_init_83 : decode cX9_init 83 = .ok (.aload_n 0, 1) := by decide +kernel
theorem dX9_init_84 : decode cX9_init 84 = .ok (.sipush 1560, 3) := by decide +kernel
theorem dX9_init_87 : decode cX9_init 87 = .ok (.newarray .int, 2) := by decide +kernel
theorem dX9_init_89 : decode cX9_init 89 = .ok (.putfield 38, 3) := by decide +kernel
theorem dX9_init_92 : decode cX9_init 92 = .ok (.aload_n 0, 1) := by decide +kernel
theorem dX9_init_93 : decode cX9_init 93 = .ok (.sipush 520, 3) := by decide +kernel
theorem dX9_init_96 : decode cX9_init 96 = .ok (.newarray .int, 2) := by decide +kernel
theorem dX9_init_98 : decode cX9_init 98 = .ok (.putfield 41, 3) := by decide +kernel
theorem dX9_init_101 : decode cX9_init 101 = .ok (.aload_n 0, 1) := by decide +kernel
theorem dX9_init_102 : decode cX9_init 102 = .ok (.sipush 520, 3) := by decide +kernel
theorem dX9_init_105 : decode cX9_init 105 = .ok (.newarray .int, 2) := by decide +kernel
theorem dX9_init_107 : decode cX9_init 107 = .ok (.putfield 44, 3) := by decide +kernel
theorem dX9_init_110 : decode cX9_init 110 = .ok (.aload_n 0, 1) := by decide +kernel
theorem dX9_init_111 : decode cX9_init 111 = .ok (.sipush 520, 3) := by decide +kernel
theorem dX9_init_114 : decode cX9_init 114 = .ok (.newarray .int, 2) := by decide +kernel
theorem dX9_init_116 : decode cX9_init 116 = .ok (.putfield 47, 3) := by decide +kernel
theorem dX9_init_119 : decode cX9_init 119 = .ok (.aload_n 0, 1) := by decide +kernel
theorem dX9_init_120 : decode cX9_init 120 = .ok (.bipush 60, 2) := by decide +kernel
theorem dX9_init_122 : decode cX9_init 122 = .ok (.newarray .int, 2) := by decide +kernel
theorem dX9_init_124 : decode cX9_init 124 = .ok (.putfield 50, 3) := by decide +kernel
theorem dX9_init_127 : decode cX9_init 127 = .ok (.aload_n 0, 1) := by decide +kernel
theorem dX9_init_128 : decode cX9_init 128 = .ok (.bipush 60, 2) := by decide +kernel
theorem dX9_init_130 : decode cX9_init 130 = .ok (.newarray .int, 2) := by decide +kernel
theorem dX9_init_132 : decode cX9_init 132 = .ok (.putfield 53, 3) := by decide +kernel
theorem dX9_init_135 : decode cX9_init 135 = .ok (.aload_n 0, 1) := by decide +kernel
theorem dX9_init_136 : decode cX9_init 136 = .ok (.sipush 1920, 3) := by decide +kernel
theorem dX9_init_139 : decode cX9_init 139 = .ok (.newarray .int, 2) := by decide +kernel
theorem dX9_init_141 : decode cX9_init 141 = .ok (.putfield 56, 3) := by decide +kernel
theorem dX9_init_144 : decode cX9_init 144 = .ok (.aload_n 0, 1) := by decide +kernel
theorem dX9_init_145 : decode cX9_init 145 = .ok (.sipush 5760, 3) := by decide +kernel
theorem dX9_init_148 : decode cX9_init 148 = .ok (.newarray .int, 2) := by decide +kernel
theorem dX9_init_150 : decode cX9_init 150 = .ok (.putfield 59, 3) := by decide +kernel
theorem dX9_init_153 : decode cX9_init 153 = .ok (.aload_n 0, 1) := by decide +kernel
theorem dX9_init_154 : decode cX9_init 154 = .ok (.iconst 3, 1) := by decide +kernel
theorem dX9_init_155 : decode cX9_init 155 = .ok (.newarray .int, 2) := by decide +kernel
theorem dX9_init_157 : decode cX9_init 157 = .ok (.putfield 62, 3) := by decide +kernel
theorem dX9_init_160 : decode cX9_init 160 = .ok (.aload_n 0, 1) := by decide +kernel
theorem dX9_init_161 : decode cX9_init 161 = .ok (.bipush 16, 2) := by decide +kernel
theorem dX9_init_163 : decode cX9_init 163 = .ok (.newarray .int, 2) := by decide +kernel
theorem dX9_init_165 : decode cX9_init 165 = .ok (.putfield 65, 3) := by decide +kernel
theorem dX9_init_168 : decode cX9_init 168 = .ok (.aload_n 0, 1) := by decide +kernel
theorem dX9_init_169 : decode cX9_init 169 = .ok (.bipush 32, 2) := by decide +kernel
theorem dX9_init_171 : decode cX9_init 171 = .ok (.newarray .int, 2) := by decide +kernel
theorem dX9_init_173 : decode cX9_init 173 = .ok (.putfield 68, 3) := by decide +kernel
theorem dX9_init_176 : decode cX9_init 176 = .ok (.aload_n 0, 1) := by decide +kernel
theorem dX9_init_177 : decode cX9_init 177 = .ok (.iconst (-1), 1) := by decide +kernel
theorem dX9_init_178 : decode cX9_init 178 = .ok (.putfield 71, 3) := by decide +kernel
theorem dX9_init_181 : decode cX9_init 181 = .ok (.aload_n 0, 1) := by decide +kernel
theorem dX9_init_182 : decode cX9_init 182 = .ok (.sipush 520, 3) := by decide +kernel
theorem dX9_init_185 : decode cX9_init 185 = .ok (.newarray .int, 2) := by decide +kernel
theorem dX9_init_187 : decode cX9_init 187 = .ok (.putfield 75, 3) := by decide +kernel
theorem dX9_init_190 : decode cX9_init 190 = .ok (.aload_n 0, 1) := by decide +kernel
theorem dX9_init_191 : decode cX9_init 191 = .ok (.sipush 520, 3) := by decide +kernel
theorem dX9_init_194 : decode cX9_init 194 = .ok (.newarray .boolean, 2) := by decide +kernel
theorem dX9_init_196 : decode cX9_init 196 = .ok (.putfield 78, 3) := by decide +kernel
theorem dX9_init_199 : decode cX9_init 199 = .ok (.return_, 1) := by decide +kernel
theorem dX9_isKey_0 : decode cX9_isKey 0 = .ok (.iload_n 0, 1) := by decide +kernel
theorem dX9_isKey_1 : decode cX9_isKey 1 = .ok (.ifCond .lt 13, 3) := by decide +kernel
theorem dX9_isKey_4 : decode cX9_isKey 4 = .ok (.iload_n 0, 1) := by decide +kernel
theorem dX9_isKey_5 : decode cX9_isKey 5 = .ok (.bipush 31, 2) := by decide +kernel
theorem dX9_isKey_7 : decode cX9_isKey 7 = .ok (.if_icmp .gt 7, 3) := by decide +kernel
theorem dX9_isKey_10 : decode cX9_isKey 10 = .ok (.iconst 1, 1) := by decide +kernel
theorem dX9_isKey_11 : decode cX9_isKey 11 = .ok (.goto 4, 3) := by decide +kernel
theorem dX9_isKey_14 : decode cX9_isKey 14 = .ok (.iconst 0, 1) := by decide +kernel
theorem dX9_isKey_15 : decode cX9_isKey 15 = .ok (.ireturn, 1) := by decide +kernel
theorem dX9_isName_0 : decode cX9_isName 0 = .ok (.iload_n 0, 1) := by decide +kernel
theorem dX9_isName_1 : decode cX9_isName 1 = .ok (.sipush 729, 3) := by decide +kernel
theorem dX9_isName_4 : decode cX9_isName 4 = .ok (.idiv, 1) := by decide +kernel
theorem dX9_isName_5 : decode cX9_isName 5 = .ok (.istore_n 1, 1) := by decide +kernel
theorem dX9_isName_6 : decode cX9_isName 6 = .ok (.iload_n 0, 1) := by decide +kernel
theorem dX9_isName_7 : decode cX9_isName 7 = .ok (.bipush 27, 2) := by decide +kernel
theorem dX9_isName_9 : decode cX9_isName 9 = .ok (.idiv, 1) := by decide +kernel
theorem dX9_isName_10 : decode cX9_isName 10 = .ok (.bipush 27, 2) := by decide +kernel
theorem dX9_isName_12 : decode cX9_isName 12 = .ok (.irem, 1) := by decide +kernel
theorem dX9_isName_13 : decode cX9_isName 13 = .ok (.istore_n 2, 1) := by decide +kernel
theorem dX9_isName_14 : decode cX9_isName 14 = .ok (.iload_n 0, 1) := by decide +kernel
theorem dX9_isName_15 : decode cX9_isName 15 = .ok (.bipush 27, 2) := by decide +kernel
theorem dX9_isName_17 : decode cX9_isName 17 = .ok (.irem, 1) := by decide +kernel
theorem dX9_isName_18 : decode cX9_isName 18 = .ok (.istore_n 3, 1) := by decide +kernel
theorem dX9_isName_19 : decode cX9_isName 19 = .ok (.iload_n 0, 1) := by decide +kernel
theorem dX9_isName_20 : decode cX9_isName 20 = .ok (.ifCond .lt 34, 3) := by decide +kernel
theorem dX9_isName_23 : decode cX9_isName 23 = .ok (.iload_n 0, 1) := by decide +kernel
theorem dX9_isName_24 : decode cX9_isName 24 = .ok (.sipush 19682, 3) := by decide +kernel
theorem dX9_isName_27 : decode cX9_isName 27 = .ok (.if_icmp .gt 27, 3) := by decide +kernel
theorem dX9_isName_30 : decode cX9_isName 30 = .ok (.iload_n 1, 1) := by decide +kernel
theorem dX9_isName_31 : decode cX9_isName 31 = .ok (.ifCond .gt 11, 3) := by decide +kernel
theorem dX9_isName_34 : decode cX9_isName 34 = .ok (.iload_n 2, 1) := by decide +kernel
theorem dX9_isName_35 : decode cX9_isName 35 = .ok (.ifCond .ne 19, 3) := by decide +kernel
theorem dX9_isName_38 : decode cX9_isName 38 = .ok (.iload_n 3, 1) := by decide +kernel
theorem dX9_isName_39 : decode cX9_isName 39 = .ok (.ifCond .ne 15, 3) := by decide +kernel
theorem dX9_isName_42 : decode cX9_isName 42 = .ok (.iload_n 2, 1) := by decide +kernel
theorem dX9_isName_43 : decode cX9_isName 43 = .ok (.ifCond .gt 7, 3) := by decide +kernel
theorem dX9_isName_46 : decode cX9_isName 46 = .ok (.iload_n 3, 1) := by decide +kernel
theorem dX9_isName_47 : decode cX9_isName 47 = .ok (.ifCond .ne 7, 3) := by decide +kernel
theorem dX9_isName_50 : decode cX9_isName 50 = .ok (.iconst 1, 1) := by decide +kernel
theorem dX9_isName_51 : decode cX9_isName 51 = .ok (.goto 4, 3) := by decide +kernel
theorem dX9_isName_54 : decode cX9_isName 54 = .ok (.iconst 0, 1) := by decide +kernel
theorem dX9_isName_55 : decode cX9_isName 55 = .ok (.ireturn, 1) := by decide +kernel
theorem dX9_needs_0 : decode cX9_needs 0 = .ok (.iload_n 0, 1) := by decide +kernel
theorem dX9_needs_1 : decode cX9_needs 1 = .ok (.iconst 4, 1) := by decide +kernel
theorem dX9_needs_2 : decode cX9_needs 2 = .ok (.if_icmp .lt 9, 3) := by decide +kernel
theorem dX9_needs_5 : decode cX9_needs 5 = .ok (.iload_n 0, 1) := by decide +kernel
theorem dX9_needs_6 : decode cX9_needs 6 = .ok (.bipush 12, 2) := by decide +kernel
theorem dX9_needs_8 : decode cX9_needs 8 = .ok (.if_icmp .ne 7, 3) := by decide +kernel
theorem dX9_needs_11 : decode cX9_needs 11 = .ok (.iconst 0, 1) := by decide +kernel
theorem dX9_needs_12 : decode cX9_needs 12 = .ok (.goto 14, 3) := by decide +kernel
theorem dX9_needs_15 : decode cX9_needs 15 = .ok (.iload_n 0, 1) := by decide +kernel
theorem dX9_needs_16 : decode cX9_needs 16 = .ok (.bipush 11, 2) := by decide +kernel
theorem dX9_needs_18 : decode cX9_needs 18 = .ok (.if_icmp .ne 7, 3) := by decide +kernel
theorem dX9_needs_21 : decode cX9_needs 21 = .ok (.iconst 1, 1) := by decide +kernel
theorem dX9_needs_22 : decode cX9_needs 22 = .ok (.goto 4, 3) := by decide +kernel
theorem dX9_needs_25 : decode cX9_needs 25 = .ok (.iconst 2, 1) := by decide +kernel
theorem dX9_needs_26 : decode cX9_needs 26 = .ok (.ireturn, 1) := by decide +kernel
theorem dX9_say_0 : decode cX9_say 0 = .ok (.iload_n 1, 1) := by decide +kernel
theorem dX9_say_1 : decode cX9_say 1 = .ok (.ifCond .lt 33, 3) := by decide +kernel
theorem dX9_say_4 : decode cX9_say 4 = .ok (.iload_n 1, 1) := by decide +kernel
theorem dX9_say_5 : decode cX9_say 5 = .ok (.bipush 12, 2) := by decide +kernel
theorem dX9_say_7 : decode cX9_say 7 = .ok (.if_icmp .gt 27, 3) := by decide +kernel
theorem dX9_say_10 : decode cX9_say 10 = .ok (.iload_n 1, 1) := by decide +kernel
theorem dX9_say_11 : decode cX9_say 11 = .ok (.bipush 12, 2) := by decide +kernel
theorem dX9_say_13 : decode cX9_say 13 = .ok (.if_icmp .ne 10, 3) := by decide +kernel
theorem dX9_say_16 : decode cX9_say 16 = .ok (.iload_n 2, 1) := by decide +kernel
theorem dX9_say_17 : decode cX9_say 17 = .ok (.invokestatic 81, 3) := by decide +kernel
theorem dX9_say_20 : decode cX9_say 20 = .ok (.ifCond .eq 14, 3) := by decide +kernel
theorem dX9_say_23 : decode cX9_say 23 = .ok (.aload_n 0, 1) := by decide +kernel
theorem dX9_say_24 : decode cX9_say 24 = .ok (.getfield 85, 3) := by decide +kernel
theorem dX9_say_27 : decode cX9_say 27 = .ok (.iload_n 1, 1) := by decide +kernel
theorem dX9_say_28 : decode cX9_say 28 = .ok (.invokestatic 88, 3) := by decide +kernel
theorem dX9_say_31 : decode cX9_say 31 = .ok (.if_icmp .ge 5, 3) := by decide +kernel
theorem dX9_say_34 : decode cX9_say 34 = .ok (.iconst 0, 1) := by decide +kernel
theorem dX9_say_35 : decode cX9_say 35 = .ok (.ireturn, 1) := by decide +kernel
theorem dX9_say_36 : decode cX9_say 36 = .ok (.iload_n 1, 1) := by decide +kernel
theorem dX9_say_37 : decode cX9_say 37 = .ok (.bipush 9, 2) := by decide +kernel
theorem dX9_say_39 : decode cX9_say 39 = .ok (.if_icmp .lt 13, 3) := by decide +kernel
theorem dX9_say_42 : decode cX9_say 42 = .ok (.iload_n 1, 1) := by decide +kernel
theorem dX9_say_43 : decode cX9_say 43 = .ok (.bipush 11, 2) := by decide +kernel
theorem dX9_say_45 : decode cX9_say 45 = .ok (.if_icmp .gt 7, 3) := by decide +kernel
theorem dX9_say_48 : decode cX9_say 48 = .ok (.iconst 1, 1) := by decide +kernel
theorem dX9_say_49 : decode cX9_say 49 = .ok (.goto 4, 3) := by decide +kernel
theorem dX9_say_52 : decode cX9_say 52 = .ok (.iconst 0, 1) := by decide +kernel
theorem dX9_say_53 : decode cX9_say 53 = .ok (.istore_n 3, 1) := by decide +kernel
theorem dX9_say_54 : decode cX9_say 54 = .ok (.iconst 1, 1) := by decide +kernel
theorem dX9_say_55 : decode cX9_say 55 = .ok (.istore 4, 2) := by decide +kernel
theorem dX9_say_57 : decode cX9_say 57 = .ok (.aload_n 0, 1) := by decide +kernel
theorem dX9_say_58 : decode cX9_say 58 = .ok (.getfield 85, 3) := by decide +kernel
theorem dX9_say_61 : decode cX9_say 61 = .ok (.iload_n 1, 1) := by decide +kernel
theorem dX9_say_62 : decode cX9_say 62 = .ok (.invokestatic 88, 3) := by decide +kernel
theorem dX9_say_65 : decode cX9_say 65 = .ok (.isub, 1) := by decide +kernel
theorem dX9_say_66 : decode cX9_say 66 = .ok (.istore 5, 2) := by decide +kernel
theorem dX9_say_68 : decode cX9_say 68 = .ok (.iload 5, 2) := by decide +kernel
theorem dX9_say_70 : decode cX9_say 70 = .ok (.aload_n 0, 1) := by decide +kernel
theorem dX9_say_71 : decode cX9_say 71 = .ok (.getfield 85, 3) := by decide +kernel
theorem dX9_say_74 : decode cX9_say 74 = .ok (.if_icmp .ge 34, 3) := by decide +kernel
theorem dX9_say_77 : decode cX9_say 77 = .ok (.aload_n 0, 1) := by decide +kernel
theorem dX9_say_78 : decode cX9_say 78 = .ok (.getfield 19, 3) := by decide +kernel
theorem dX9_say_81 : decode cX9_say 81 = .ok (.iload 5, 2) := by decide +kernel
theorem dX9_say_83 : decode cX9_say 83 = .ok (.baload, 1) := by decide +kernel
theorem dX9_say_84 : decode cX9_say 84 = .ok (.iload_n 3, 1) := by decide +kernel
theorem dX9_say_85 : decode cX9_say 85 = .ok (.if_icmp .eq 5, 3) := by decide +kernel
theorem dX9_say_88 : decode cX9_say 88 = .ok (.iconst 0, 1) := by decide +kernel
theorem dX9_say_89 : decode cX9_say 89 = .ok (.ireturn, 1) := by decide +kernel
theorem dX9_say_90 : decode cX9_say 90 = .ok (.iload 4, 2) := by decide +kernel
theorem dX9_say_92 : decode cX9_say 92 = .ok (.aload_n 0, 1) := by decide +kernel
theorem dX9_say_93 : decode cX9_say 93 = .ok (.getfield 7, 3) := by decide +kernel
theorem dX9_say_96 : decode cX9_say 96 = .ok (.iload 5, 2) := by decide +kernel
theorem dX9_say_98 : decode cX9_say 98 = .ok (.iaload, 1) := by decide +kernel
theorem dX9_say_99 : decode cX9_say 99 = .ok (.iadd, 1) := by decide +kernel
theorem dX9_say_100 : decode cX9_say 100 = .ok (.istore 4, 2) := by decide +kernel
theorem dX9_say_102 : decode cX9_say 102 = .ok (.iinc 5 1, 3) := by decide +kernel
theorem dX9_say_105 : decode cX9_say 105 = .ok (.goto (-37), 3) := by decide +kernel
theorem dX9_say_108 : decode cX9_say 108 = .ok (.aload_n 0, 1) := by decide +kernel
theorem dX9_say_109 : decode cX9_say 109 = .ok (.getfield 85, 3) := by decide +kernel
theorem dX9_say_112 : decode cX9_say 112 = .ok (.iload_n 1, 1) := by decide +kernel
theorem dX9_say_113 : decode cX9_say 113 = .ok (.invokestatic 88, 3) := by decide +kernel
theorem dX9_say_116 : decode cX9_say 116 = .ok (.isub, 1) := by decide +kernel
theorem dX9_say_117 : decode cX9_say 117 = .ok (.istore 5, 2) := by decide +kernel
theorem dX9_say_119 : decode cX9_say 119 = .ok (.iload 5, 2) := by decide +kernel
theorem dX9_say_121 : decode cX9_say 121 = .ok (.bipush 8, 2) := by decide +kernel
theorem dX9_say_123 : decode cX9_say 123 = .ok (.if_icmp .eq 10, 3) := by decide +kernel
theorem dX9_say_126 : decode cX9_say 126 = .ok (.iload 4, 2) := by decide +kernel
theorem dX9_say_128 : decode cX9_say 128 = .ok (.bipush 15, 2) := by decide +kernel
theorem dX9_say_130 : decode cX9_say 130 = .ok (.if_icmp .le 5, 3) := by decide +kernel
theorem dX9_say_133 : decode cX9_say 133 = .ok (.iconst 0, 1) := by decide +kernel
theorem dX9_say_134 : decode cX9_say 134 = .ok (.ireturn, 1) := by decide +kernel
theorem dX9_say_135 : decode cX9_say 135 = .ok (.iload_n 1, 1) := by decide +kernel
theorem dX9_say_136 : decode cX9_say 136 = .ok (.invokestatic 88, 3) := by decide +kernel
theorem dX9_say_139 : decode cX9_say 139 = .ok (.ifCond .ne 7, 3) := by decide +kernel
theorem dX9_say_142 : decode cX9_say 142 = .ok (.iconst 0, 1) := by decide +kernel
theorem dX9_say_143 : decode cX9_say 143 = .ok (.goto 10, 3) := by decide +kernel
theorem dX9_say_146 : decode cX9_say 146 = .ok (.aload_n 0, 1) := by decide +kernel
theorem dX9_say_147 : decode cX9_say 147 = .ok (.getfield 7, 3) := by decide +kernel
theorem dX9_say_150 : decode cX9_say 150 = .ok (.iload 5, 2) := by decide +kernel
theorem dX9_say_152 : decode cX9_say 152 = .ok (.iaload, 1) := by decide +kernel
theorem dX9_say_153 : decode cX9_say 153 = .ok (.istore 6, 2) := by decide +kernel
theorem dX9_say_155 : decode cX9_say 155 = .ok (.iconst 0, 1) := by decide +kernel
theorem dX9_say_156 : decode cX9_say 156 = .ok (.istore 7, 2) := by decide +kernel
theorem dX9_say_158 : decode cX9_say 158 = .ok (.iload_n 1, 1) := by decide +kernel
theorem dX9_say_159 : decode cX9_say 159 = .ok (.invokestatic 88, 3) := by decide +kernel
theorem dX9_say_162 : decode cX9_say 162 = .ok (.iconst 2, 1) := by decide +kernel
theorem dX9_say_163 : decode cX9_say 163 = .ok (.if_icmp .ne 85, 3) := by decide +kernel
theorem dX9_say_166 : decode cX9_say 166 = .ok (.iload 7, 2) := by decide +kernel
theorem dX9_say_168 : decode cX9_say 168 = .ok (.aload_n 0, 1) := by decide +kernel
theorem dX9_say_169 : decode cX9_say 169 = .ok (.getfield 7, 3) := by decide +kernel
theorem dX9_say_172 : decode cX9_say 172 = .ok (.iload 5, 2) := by decide +kernel
theorem dX9_say_174 : decode cX9_say 174 = .ok (.iconst 1, 1) := by decide +kernel
theorem dX9_say_175 : decode cX9_say 175 = .ok (.iadd, 1) := by decide +kernel
theorem dX9_say_176 : decode cX9_say 176 = .ok (.iaload, 1) := by decide +kernel
theorem dX9_say_177 : decode cX9_say 177 = .ok (.if_icmp .ge 71, 3) := by decide +kernel
theorem dX9_say_180 : decode cX9_say 180 = .ok (.aload_n 0, 1) := by decide +kernel
theorem dX9_say_181 : decode cX9_say 181 = .ok (.getfield 13, 3) := by decide +kernel
theorem dX9_say_184 : decode cX9_say 184 = .ok (.bipush 15, 2) := by decide +kernel
theorem dX9_say_186 : decode cX9_say 186 = .ok (.iload 5, 2) := by decide +kernel
theorem dX9_say_188 : decode cX9_say 188 = .ok (.imul, 1) := by decide +kernel
theorem dX9_say_189 : decode cX9_say 189 = .ok (.iload 6, 2) := by decide +kernel
theorem dX9_say_191 : decode cX9_say 191 = .ok (.iadd, 1) := by decide +kernel
theorem dX9_say_192 : decode cX9_say 192 = .ok (.iload 7, 2) := by decide +kernel
theorem dX9_say_194 : decode cX9_say 194 = .ok (.iadd, 1) := by decide +kernel
theorem dX9_say_195 : decode cX9_say 195 = .ok (.aload_n 0, 1) := by decide +kernel
theorem dX9_say_196 : decode cX9_say 196 = .ok (.getfield 13, 3) := by decide +kernel
theorem dX9_say_199 : decode cX9_say 199 = .ok (.bipush 15, 2) := by decide +kernel
theorem dX9_say_201 : decode cX9_say 201 = .ok (.iload 5, 2) := by decide +kernel
theorem dX9_say_203 : decode cX9_say 203 = .ok (.iconst 1, 1) := by decide +kernel
theorem dX9_say_204 : decode cX9_say 204 = .ok (.iadd, 1) := by decide +kernel
theorem dX9_say_205 : decode cX9_say 205 = .ok (.imul, 1) := by decide +kernel
theorem dX9_say_206 : decode cX9_say 206 = .ok (.iload 7, 2) := by decide +kernel
theorem dX9_say_208 : decode cX9_say 208 = .ok (.iadd, 1) := by decide +kernel
theorem dX9_say_209 : decode cX9_say 209 = .ok (.iaload, 1) := by decide +kernel
theorem dX9_say_210 : decode cX9_say 210 = .ok (.iastore, 1) := by decide +kernel
theorem dX9_say_211 : decode cX9_say 211 = .ok (.aload_n 0, 1) := by decide +kernel
theorem dX9_say_212 : decode cX9_say 212 = .ok (.getfield 16, 3) := by decide +kernel
theorem dX9_say_215 : decode cX9_say 215 = .ok (.bipush 15, 2) := by decide +kernel
theorem dX9_say_217 : decode cX9_say 217 = .ok (.iload 5, 2) := by decide +kernel
theorem dX9_say_219 : decode cX9_say 219 = .ok (.imul, 1) := by decide +kernel
theorem dX9_say_220 : decode cX9_say 220 = .ok (.iload 6, 2) := by decide +kernel
theorem dX9_say_222 : decode cX9_say 222 = .ok (.iadd, 1) := by decide +kernel
theorem dX9_say_223 : decode cX9_say 223 = .ok (.iload 7, 2) := by decide +kernel
theorem dX9_say_225 : decode cX9_say 225 = .ok (.iadd, 1) := by decide +kernel
theorem dX9_say_226 : decode cX9_say 226 = .ok (.aload_n 0, 1) := by decide +kernel
theorem dX9_say_227 : decode cX9_say 227 = .ok (.getfield 16, 3) := by decide +kernel
theorem dX9_say_230 : decode cX9_say 230 = .ok (.bipush 15, 2) := by decide +kernel
theorem dX9_say_232 : decode cX9_say 232 = .ok (.iload 5, 2) := by decide +kernel
theorem dX9_say_234 : decode cX9_say 234 = .ok (.iconst 1, 1) := by decide +kernel
theorem dX9_say_235 : decode cX9_say 235 = .ok (.iadd, 1) := by decide +kernel
theorem dX9_say_236 : decode cX9_say 236 = .ok (.imul, 1) := by decide +kernel
theorem dX9_say_237 : decode cX9_say 237 = .ok (.iload 7, 2) := by decide +kernel
theorem dX9_say_239 : decode cX9_say 239 = .ok (.iadd, 1) := by decide +kernel
theorem dX9_say_240 : decode cX9_say 240 = .ok (.iaload, 1) := by decide +kernel
theorem dX9_say_241 : decode cX9_say 241 = .ok (.iastore, 1) := by decide +kernel
theorem dX9_say_242 : decode cX9_say 242 = .ok (.iinc 7 1, 3) := by decide +kernel
theorem dX9_say_245 : decode cX9_say 245 = .ok (.goto (-87), 3) := by decide +kernel
theorem dX9_say_248 : decode cX9_say 248 = .ok (.aload_n 0, 1) := by decide +kernel
theorem dX9_say_249 : decode cX9_say 249 = .ok (.getfield 13, 3) := by decide +kernel
theorem dX9_say_252 : decode cX9_say 252 = .ok (.bipush 15, 2) := by decide +kernel
theorem dX9_say_254 : decode cX9_say 254 = .ok (.iload 5, 2) := by decide +kernel
theorem dX9_say_256 : decode cX9_say 256 = .ok (.imul, 1) := by decide +kernel
theorem dX9_say_257 : decode cX9_say 257 = .ok (.iload 4, 2) := by decide +kernel
theorem dX9_say_259 : decode cX9_say 259 = .ok (.iadd, 1) := by decide +kernel
theorem dX9_say_260 : decode cX9_say 260 = .ok (.iconst 1, 1) := by decide +kernel
theorem dX9_say_261 : decode cX9_say 261 = .ok (.isub, 1) := by decide +kernel
theorem dX9_say_262 : decode cX9_say 262 = .ok (.iload_n 1, 1) := by decide +kernel
theorem dX9_say_263 : decode cX9_say 263 = .ok (.iastore, 1) := by decide +kernel
theorem dX9_say_264 : decode cX9_say 264 = .ok (.aload_n 0, 1) := by decide +kernel
theorem dX9_say_265 : decode cX9_say 265 = .ok (.getfield 16, 3) := by decide +kernel
theorem dX9_say_268 : decode cX9_say 268 = .ok (.bipush 15, 2) := by decide +kernel
theorem dX9_say_270 : decode cX9_say 270 = .ok (.iload 5, 2) := by decide +kernel
theorem dX9_say_272 : decode cX9_say 272 = .ok (.imul, 1) := by decide +kernel
theorem dX9_say_273 : decode cX9_say 273 = .ok (.iload 4, 2) := by decide +kernel
theorem dX9_say_275 : decode cX9_say 275 = .ok (.iadd, 1) := by decide +kernel
theorem dX9_say_276 : decode cX9_say 276 = .ok (.iconst 1, 1) := by decide +kernel
theorem dX9_say_277 : decode cX9_say 277 = .ok (.isub, 1) := by decide +kernel
theorem dX9_say_278 : decode cX9_say 278 = .ok (.iload_n 1, 1) := by decide +kernel
theorem dX9_say_279 : decode cX9_say 279 = .ok (.iconst 3, 1) := by decide +kernel
theorem dX9_say_280 : decode cX9_say 280 = .ok (.if_icmp .eq 9, 3) := by decide +kernel
theorem dX9_say_283 : decode cX9_say 283 = .ok (.iload_n 1, 1) := by decide +kernel
theorem dX9_say_284 : decode cX9_say 284 = .ok (.bipush 12, 2) := by decide +kernel
theorem dX9_say_286 : decode cX9_say 286 = .ok (.if_icmp .ne 7, 3) := by decide +kernel
theorem dX9_say_289 : decode cX9_say 289 = .ok (.iload_n 2, 1) := by decide +kernel
theorem dX9_say_290 : decode cX9_say 290 = .ok (.goto 4, 3) := by decide +kernel
theorem dX9_say_293 : decode cX9_say 293 = .ok (.iconst 0, 1) := by decide +kernel
theorem dX9_say_294 : decode cX9_say 294 = .ok (.iastore, 1) := by decide +kernel
theorem dX9_say_295 : decode cX9_say 295 = .ok (.aload_n 0, 1) := by decide +kernel
theorem dX9_say_296 : decode cX9_say 296 = .ok (.getfield 7, 3) := by decide +kernel
theorem dX9_say_299 : decode cX9_say 299 = .ok (.iload 5, 2) := by decide +kernel
theorem dX9_say_301 : decode cX9_say 301 = .ok (.iload 4, 2) := by decide +kernel
theorem dX9_say_303 : decode cX9_say 303 = .ok (.iastore, 1) := by decide +kernel
theorem dX9_say_304 : decode cX9_say 304 = .ok (.aload_n 0, 1) := by decide +kernel
theorem dX9_say_305 : decode cX9_say 305 = .ok (.getfield 19, 3) := by decide +kernel
theorem dX9_say_308 : decode cX9_say 308 = .ok (.iload 5, 2) := by decide +kernel
theorem dX9_say_310 : decode cX9_say 310 = .ok (.iload_n 1, 1) := by decide +kernel
theorem dX9_say_311 : decode cX9_say 311 = .ok (.bipush 7, 2) := by decide +kernel
theorem dX9_say_313 : decode cX9_say 313 = .ok (.if_icmp .lt 7, 3) := by decide +kernel
theorem dX9_say_316 : decode cX9_say 316 = .ok (.iconst 1, 1) := by decide +kernel
theorem dX9_say_317 : decode cX9_say 317 = .ok (.goto 4, 3) := by decide +kernel
theorem dX9_say_320 : decode cX9_say 320 = .ok (.iconst 0, 1) := by decide +kernel
theorem dX9_say_321 : decode cX9_say 321 = .ok (.bastore, 1) := by decide +kernel
theorem dX9_say_322 : decode cX9_say 322 = .ok (.aload_n 0, 1) := by decide +kernel
theorem dX9_say_323 : decode cX9_say 323 = .ok (.iload 5, 2) := by decide +kernel
theorem dX9_say_325 : decode cX9_say 325 = .ok (.iconst 1, 1) := by decide +kernel
theorem dX9_say_326 : decode cX9_say 326 = .ok (.iadd, 1) := by decide +kernel
theorem dX9_say_327 : decode cX9_say 327 = .ok (.putfield 85, 3) := by decide +kernel
theorem dX9_say_330 : decode cX9_say 330 = .ok (.iconst 1, 1) := by decide +kernel
theorem dX9_say_331 : decode cX9_say 331 = .ok (.ireturn, 1) := by decide +kernel
theorem dX9_starts_0 : decode cX9_starts 0 = .ok (.iload_n 1, 1) := by decide +kernel
theorem dX9_starts_1 : decode cX9_starts 1 = .ok (.sipush 729, 3) := by decide +kernel
theorem dX9_starts_4 : decode cX9_starts 4 = .ok (.idiv, 1) := by decide +kernel
theorem dX9_starts_5 : decode cX9_starts 5 = .ok (.istore_n 2, 1) := by decide +kernel
theorem dX9_starts_6 : decode cX9_starts 6 = .ok (.iload_n 1, 1) := by decide +kernel
theorem dX9_starts_7 : decode cX9_starts 7 = .ok (.bipush 27, 2) := by decide +kernel
theorem dX9_starts_9 : decode cX9_starts 9 = .ok (.idiv, 1) := by decide +kernel
theorem dX9_starts_10 : decode cX9_starts 10 = .ok (.bipush 27, 2) := by decide +kernel
theorem dX9_starts_12 : decode cX9_starts 12 = .ok (.irem, 1) := by decide +kernel
theorem dX9_starts_13 : decode cX9_starts 13 = .ok (.istore_n 3, 1) := by decide +kernel
theorem dX9_starts_14 : decode cX9_starts 14 = .ok (.iload_n 1, 1) := by decide +kernel
theorem dX9_starts_15 : decode cX9_starts 15 = .ok (.bipush 27, 2) := by decide +kernel
theorem dX9_starts_17 : decode cX9_starts 17 = .ok (.irem, 1) := by decide +kernel
theorem dX9_starts_18 : decode cX9_starts 18 = .ok (.istore 4, 2) := by decide +kernel
theorem dX9_starts_20 : decode cX9_starts 20 = .ok (.iload_n 2, 1) := by decide +kernel
theorem dX9_starts_21 : decode cX9_starts 21 = .ok (.ifCond .eq 12, 3) := by decide +kernel
theorem dX9_starts_24 : decode cX9_starts 24 = .ok (.iload_n 0, 1) := by decide +kernel
theorem dX9_starts_25 : decode cX9_starts 25 = .ok (.sipush 729, 3) := by decide +kernel
theorem dX9_starts_28 : decode cX9_starts 28 = .ok (.idiv, 1) := by decide +kernel
theorem dX9_starts_29 : decode cX9_starts 29 = .ok (.iload_n 2, 1) := by decide +kernel
theorem dX9_starts_30 : decode cX9_starts 30 = .ok (.if_icmp .ne 36, 3) := by decide +kernel
theorem dX9_starts_33 : decode cX9_starts 33 = .ok (.iload_n 3, 1) := by decide +kernel
theorem dX9_starts_34 : decode cX9_starts 34 = .ok (.ifCond .eq 14, 3) := by decide +kernel
theorem dX9_starts_37 : decode cX9_starts 37 = .ok (.iload_n 0, 1) := by decide +kernel
theorem dX9_starts_38 : decode cX9_starts 38 = .ok (.bipush 27, 2) := by decide +kernel
theorem dX9_starts_40 : decode cX9_starts 40 = .ok (.idiv, 1) := by decide +kernel
theorem dX9_starts_41 : decode cX9_starts 41 = .ok (.bipush 27, 2) := by decide +kernel
theorem dX9_starts_43 : decode cX9_starts 43 = .ok (.irem, 1) := by decide +kernel
theorem dX9_starts_44 : decode cX9_starts 44 = .ok (.iload_n 3, 1) := by decide +kernel
theorem dX9_starts_45 : decode cX9_starts 45 = .ok (.if_icmp .ne 21, 3) := by decide +kernel
theorem dX9_starts_48 : decode cX9_starts 48 = .ok (.iload 4, 2) := by decide +kernel
theorem dX9_starts_50 : decode cX9_starts 50 = .ok (.ifCond .eq 12, 3) := by decide +kernel
theorem dX9_starts_53 : decode cX9_starts 53 = .ok (.iload_n 0, 1) := by decide +kernel
theorem dX9_starts_54 : decode cX9_starts 54 = .ok (.bipush 27, 2) := by decide +kernel
theorem dX9_starts_56 : decode cX9_starts 56 = .ok (.irem, 1) := by decide +kernel
theorem dX9_starts_57 : decode cX9_starts 57 = .ok (.iload 4, 2) := by decide +kernel
theorem dX9_starts_59 : decode cX9_starts 59 = .ok (.if_icmp .ne 7, 3) := by decide +kernel
theorem dX9_starts_62 : decode cX9_starts 62 = .ok (.iconst 1, 1) := by decide +kernel
theorem dX9_starts_63 : decode cX9_starts 63 = .ok (.goto 4, 3) := by decide +kernel
theorem dX9_starts_66 : decode cX9_starts 66 = .ok (.iconst 0, 1) := by decide +kernel
theorem dX9_starts_67 : decode cX9_starts 67 = .ok (.ireturn, 1) := by decide +kernel
theorem dX9_two_0 : decode cX9_two 0 = .ok (.iload_n 0, 1) := by decide +kernel
theorem dX9_two_1 : decode cX9_two 1 = .ok (.bipush 7, 2) := by decide +kernel
theorem dX9_two_3 : decode cX9_two 3 = .ok (.if_icmp .ge 29, 3) := by decide +kernel
theorem dX9_two_6 : decode cX9_two 6 = .ok (.iload_n 0, 1) := by decide +kernel
theorem dX9_two_7 : decode cX9_two 7 = .ok (.iconst 4, 1) := by decide +kernel
theorem dX9_two_8 : decode cX9_two 8 = .ok (.if_icmp .ne 9, 3) := by decide +kernel
theorem dX9_two_11 : decode cX9_two 11 = .ok (.iload_n 1, 1) := by decide +kernel
theorem dX9_two_12 : decode cX9_two 12 = .ok (.iload_n 2, 1) := by decide +kernel
theorem dX9_two_13 : decode cX9_two 13 = .ok (.iadd, 1) := by decide +kernel
theorem dX9_two_14 : decode cX9_two 14 = .ok (.goto 17, 3) := by decide +kernel
theorem dX9_two_17 : decode cX9_two 17 = .ok (.iload_n 0, 1) := by decide +kernel
theorem dX9_two_18 : decode cX9_two 18 = .ok (.iconst 5, 1) := by decide +kernel
theorem dX9_two_19 : decode cX9_two 19 = .ok (.if_icmp .ne 9, 3) := by decide +kernel
theorem dX9_two_22 : decode cX9_two 22 = .ok (.iload_n 1, 1) := by decide +kernel
theorem dX9_two_23 : decode cX9_two 23 = .ok (.iload_n 2, 1) := by decide +kernel
theorem dX9_two_24 : decode cX9_two 24 = .ok (.isub, 1) := by decide +kernel
theorem dX9_two_25 : decode cX9_two 25 = .ok (.goto 6, 3) := by decide +kernel
theorem dX9_two_28 : decode cX9_two 28 = .ok (.iload_n 1, 1) := by decide +kernel
theorem dX9_two_29 : decode cX9_two 29 = .ok (.iload_n 2, 1) := by decide +kernel
theorem dX9_two_30 : decode cX9_two 30 = .ok (.imul, 1) := by decide +kernel
theorem dX9_two_31 : decode cX9_two 31 = .ok (.ireturn, 1) := by decide +kernel
theorem dX9_two_32 : decode cX9_two 32 = .ok (.iload_n 0, 1) := by decide +kernel
theorem dX9_two_33 : decode cX9_two 33 = .ok (.bipush 7, 2) := by decide +kernel
theorem dX9_two_35 : decode cX9_two 35 = .ok (.if_icmp .ne 16, 3) := by decide +kernel
theorem dX9_two_38 : decode cX9_two 38 = .ok (.iload_n 1, 1) := by decide +kernel
theorem dX9_two_39 : decode cX9_two 39 = .ok (.iload_n 2, 1) := by decide +kernel
theorem dX9_two_40 : decode cX9_two 40 = .ok (.if_icmp .ge 7, 3) := by decide +kernel
theorem dX9_two_43 : decode cX9_two 43 = .ok (.iconst 1, 1) := by decide +kernel
theorem dX9_two_44 : decode cX9_two 44 = .ok (.goto 65, 3) := by decide +kernel
theorem dX9_two_47 : decode cX9_two 47 = .ok (.iconst 0, 1) := by decide +kernel
theorem dX9_two_48 : decode cX9_two 48 = .ok (.goto 61, 3) := by decide +kernel
theorem dX9_two_51 : decode cX9_two 51 = .ok (.iload_n 0, 1) := by decide +kernel
theorem dX9_two_52 : decode cX9_two 52 = .ok (.bipush 8, 2) := by decide +kernel
theorem dX9_two_54 : decode cX9_two 54 = .ok (.if_icmp .ne 16, 3) := by decide +kernel
theorem dX9_two_57 : decode cX9_two 57 = .ok (.iload_n 1, 1) := by decide +kernel
theorem dX9_two_58 : decode cX9_two 58 = .ok (.iload_n 2, 1) := by decide +kernel
theorem dX9_two_59 : decode cX9_two 59 = .ok (.if_icmp .ne 7, 3) := by decide +kernel
theorem dX9_two_62 : decode cX9_two 62 = .ok (.iconst 1, 1) := by decide +kernel
theorem dX9_two_63 : decode cX9_two 63 = .ok (.goto 46, 3) := by decide +kernel
theorem dX9_two_66 : decode cX9_two 66 = .ok (.iconst 0, 1) := by decide +kernel
theorem dX9_two_67 : decode cX9_two 67 = .ok (.goto 42, 3) := by decide +kernel
theorem dX9_two_70 : decode cX9_two 70 = .ok (.iload_n 0, 1) := by decide +kernel
theorem dX9_two_71 : decode cX9_two 71 = .ok (.bipush 9, 2) := by decide +kernel
theorem dX9_two_73 : decode cX9_two 73 = .ok (.if_icmp .ne 21, 3) := by decide +kernel
theorem dX9_two_76 : decode cX9_two 76 = .ok (.iload_n 1, 1) := by decide +kernel
theorem dX9_two_77 : decode cX9_two 77 = .ok (.iconst 1, 1) := by decide +kernel
theorem dX9_two_78 : decode cX9_two 78 = .ok (.if_icmp .ne 12, 3) := by decide +kernel
theorem dX9_two_81 : decode cX9_two 81 = .ok (.iload_n 2, 1) := by decide +kernel
theorem dX9_two_82 : decode cX9_two 82 = .ok (.iconst 1, 1) := by decide +kernel
theorem dX9_two_83 : decode cX9_two 83 = .ok (.if_icmp .ne 7, 3) := by decide +kernel
theorem dX9_two_86 : decode cX9_two 86 = .ok (.iconst 1, 1) := by decide +kernel
theorem dX9_two_87 : decode cX9_two 87 = .ok (.goto 22, 3) := by decide +kernel
theorem dX9_two_90 : decode cX9_two 90 = .ok (.iconst 0, 1) := by decide +kernel
theorem dX9_two_91 : decode cX9_two 91 = .ok (.goto 18, 3) := by decide +kernel
theorem dX9_two_94 : decode cX9_two 94 = .ok (.iload_n 1, 1) := by decide +kernel
theorem dX9_two_95 : decode cX9_two 95 = .ok (.iconst 1, 1) := by decide +kernel
theorem dX9_two_96 : decode cX9_two 96 = .ok (.if_icmp .eq 8, 3) := by decide +kernel
theorem dX9_two_99 : decode cX9_two 99 = .ok (.iload_n 2, 1) := by decide +kernel
theorem dX9_two_100 : decode cX9_two 100 = .ok (.iconst 1, 1) := by decide +kernel
theorem dX9_two_101 : decode cX9_two 101 = .ok (.if_icmp .ne 7, 3) := by decide +kernel
theorem dX9_two_104 : decode cX9_two 104 = .ok (.iconst 1, 1) := by decide +kernel
theorem dX9_two_105 : decode cX9_two 105 = .ok (.goto 4, 3) := by decide +kernel
theorem dX9_two_108 : decode cX9_two 108 = .ok (.iconst 0, 1) := by decide +kernel
theorem dX9_two_109 : decode cX9_two 109 = .ok (.istore_n 3, 1) := by decide +kernel
theorem dX9_two_110 : decode cX9_two 110 = .ok (.iload_n 3, 1) := by decide +kernel
theorem dX9_two_111 : decode cX9_two 111 = .ok (.ifCond .eq 7, 3) := by decide +kernel
theorem dX9_two_114 : decode cX9_two 114 = .ok (.iconst 1, 1) := by decide +kernel
theorem dX9_two_115 : decode cX9_two 115 = .ok (.goto 4, 3) := by decide +kernel
theorem dX9_two_118 : decode cX9_two 118 = .ok (.iconst 0, 1) := by decide +kernel
theorem dX9_two_119 : decode cX9_two 119 = .ok (.ireturn, 1) := by decide +kernel
theorem dX9_value_0 : decode cX9_value 0 = .ok (.iconst 0, 1) := by decide +kernel
theorem dX9_value_1 : decode cX9_value 1 = .ok (.istore_n 2, 1) := by decide +kernel
theorem dX9_value_2 : decode cX9_value 2 = .ok (.bipush 15, 2) := by decide +kernel
theorem dX9_value_4 : decode cX9_value 4 = .ok (.iload_n 1, 1) := by decide +kernel
theorem dX9_value_5 : decode cX9_value 5 = .ok (.imul, 1) := by decide +kernel
theorem dX9_value_6 : decode cX9_value 6 = .ok (.istore_n 3, 1) := by decide +kernel
theorem dX9_value_7 : decode cX9_value 7 = .ok (.iload_n 3, 1) := by decide +kernel
theorem dX9_value_8 : decode cX9_value 8 = .ok (.bipush 15, 2) := by decide +kernel
theorem dX9_value_10 : decode cX9_value 10 = .ok (.iload_n 1, 1) := by decide +kernel
theorem dX9_value_11 : decode cX9_value 11 = .ok (.imul, 1) := by decide +kernel
theorem dX9_value_12 : decode cX9_value 12 = .ok (.aload_n 0, 1) := by decide +kernel
theorem dX9_value_13 : decode cX9_value 13 = .ok (.getfield 7, 3) := by decide +kernel
theorem dX9_value_16 : decode cX9_value 16 = .ok (.iload_n 1, 1) := by decide +kernel
theorem dX9_value_17 : decode cX9_value 17 = .ok (.iaload, 1) := by decide +kernel
theorem dX9_value_18 : decode cX9_value 18 = .ok (.iadd, 1) := by decide +kernel
theorem dX9_value_19 : decode cX9_value 19 = .ok (.if_icmp .ge 154, 3) := by decide +kernel
theorem dX9_value_22 : decode cX9_value 22 = .ok (.aload_n 0, 1) := by decide +kernel
theorem dX9_value_23 : decode cX9_value 23 = .ok (.getfield 13, 3) := by decide +kernel
theorem dX9_value_26 : decode cX9_value 26 = .ok (.iload_n 3, 1) := by decide +kernel
theorem dX9_value_27 : decode cX9_value 27 = .ok (.iaload, 1) := by decide +kernel
theorem dX9_value_28 : decode cX9_value 28 = .ok (.istore 4, 2) := by decide +kernel
theorem dX9_value_30 : decode cX9_value 30 = .ok (.iload 4, 2) := by decide +kernel
theorem dX9_value_32 : decode cX9_value 32 = .ok (.iconst 4, 1) := by decide +kernel
theorem dX9_value_33 : decode cX9_value 33 = .ok (.if_icmp .lt 10, 3) := by decide +kernel
theorem dX9_value_36 : decode cX9_value 36 = .ok (.iload 4, 2) := by decide +kernel
theorem dX9_value_38 : decode cX9_value 38 = .ok (.bipush 12, 2) := by decide +kernel
theorem dX9_value_40 : decode cX9_value 40 = .ok (.if_icmp .ne 69, 3) := by decide +kernel
theorem dX9_value_43 : decode cX9_value 43 = .ok (.aload_n 0, 1) := by decide +kernel
theorem dX9_value_44 : decode cX9_value 44 = .ok (.getfield 65, 3) := by decide +kernel
theorem dX9_value_47 : decode cX9_value 47 = .ok (.iload_n 2, 1) := by decide +kernel
theorem dX9_value_48 : decode cX9_value 48 = .ok (.iload 4, 2) := by decide +kernel
theorem dX9_value_50 : decode cX9_value 50 = .ok (.iconst 3, 1) := by decide +kernel
theorem dX9_value_51 : decode cX9_value 51 = .ok (.if_icmp .ge 13, 3) := by decide +kernel
theorem dX9_value_54 : decode cX9_value 54 = .ok (.aload_n 0, 1) := by decide +kernel
theorem dX9_value_55 : decode cX9_value 55 = .ok (.getfield 62, 3) := by decide +kernel
theorem dX9_value_58 : decode cX9_value 58 = .ok (.iload 4, 2) := by decide +kernel
theorem dX9_value_60 : decode cX9_value 60 = .ok (.iaload, 1) := by decide +kernel
theorem dX9_value_61 : decode cX9_value 61 = .ok (.goto 41, 3) := by decide +kernel
theorem dX9_value_64 : decode cX9_value 64 = .ok (.iload 4, 2) := by decide +kernel
theorem dX9_value_66 : decode cX9_value 66 = .ok (.iconst 3, 1) := by decide +kernel
theorem dX9_value_67 : decode cX9_value 67 = .ok (.if_icmp .ne 12, 3) := by decide +kernel
theorem dX9_value_70 : decode cX9_value 70 = .ok (.aload_n 0, 1) := by decide +kernel
theorem dX9_value_71 : decode cX9_value 71 = .ok (.getfield 16, 3) := by decide +kernel
theorem dX9_value_74 : decode cX9_value 74 = .ok (.iload_n 3, 1) := by decide +kernel
theorem dX9_value_75 : decode cX9_value 75 = .ok (.iaload, 1) := by decide +kernel
theorem dX9_value_76 : decode cX9_value 76 = .ok (.goto 26, 3) := by decide +kernel
theorem dX9_value_79 : decode cX9_value 79 = .ok (.aload_n 0, 1) := by decide +kernel
theorem dX9_value_80 : decode cX9_value 80 = .ok (.getfield 62, 3) := by decide +kernel
theorem dX9_value_83 : decode cX9_value 83 = .ok (.iconst 2, 1) := by decide +kernel
theorem dX9_value_84 : decode cX9_value 84 = .ok (.iaload, 1) := by decide +kernel
theorem dX9_value_85 : decode cX9_value 85 = .ok (.aload_n 0, 1) := by decide +kernel
theorem dX9_value_86 : decode cX9_value 86 = .ok (.getfield 16, 3) := by decide +kernel
theorem dX9_value_89 : decode cX9_value 89 = .ok (.iload_n 3, 1) := by decide +kernel
theorem dX9_value_90 : decode cX9_value 90 = .ok (.iaload, 1) := by decide +kernel
theorem dX9_value_91 : decode cX9_value 91 = .ok (.invokestatic 92, 3) := by decide +kernel
theorem dX9_value_94 : decode cX9_value 94 = .ok (.ifCond .eq 7, 3) := by decide +kernel
theorem dX9_value_97 : decode cX9_value 97 = .ok (.iconst 1, 1) := by decide +kernel
theorem dX9_value_98 : decode cX9_value 98 = .ok (.goto 4, 3) := by decide +kernel
theorem dX9_value_101 : decode cX9_value 101 = .ok (.iconst 0, 1) := by decide +kernel
theorem dX9_value_102 : decode cX9_value 102 = .ok (.iastore, 1) := by decide +kernel
theorem dX9_value_103 : decode cX9_value 103 = .ok (.iinc 2 1, 3) := by decide +kernel
theorem dX9_value_106 : decode cX9_value 106 = .ok (.goto 61, 3) := by decide +kernel
theorem dX9_value_109 : decode cX9_value 109 = .ok (.iload 4, 2) := by decide +kernel
theorem dX9_value_111 : decode cX9_value 111 = .ok (.bipush 11, 2) := by decide +kernel
theorem dX9_value_113 : decode cX9_value 113 = .ok (.if_icmp .ne 24, 3) := by decide +kernel
theorem dX9_value_116 : decode cX9_value 116 = .ok (.aload_n 0, 1) := by decide +kernel
theorem dX9_value_117 : decode cX9_value 117 = .ok (.getfield 65, 3) := by decide +kernel
theorem dX9_value_120 : decode cX9_value 120 = .ok (.iload_n 2, 1) := by decide +kernel
theorem dX9_value_121 : decode cX9_value 121 = .ok (.iconst 1, 1) := by decide +kernel
theorem dX9_value_122 : decode cX9_value 122 = .ok (.isub, 1) := by decide +kernel
theorem dX9_value_123 : decode cX9_value 123 = .ok (.iconst 1, 1) := by decide +kernel
theorem dX9_value_124 : decode cX9_value 124 = .ok (.aload_n 0, 1) := by decide +kernel
theorem dX9_value_125 : decode cX9_value 125 = .ok (.getfield 65, 3) := by decide +kernel
theorem dX9_value_128 : decode cX9_value 128 = .ok (.iload_n 2, 1) := by decide +kernel
theorem dX9_value_129 : decode cX9_value 129 = .ok (.iconst 1, 1) := by decide +kernel
theorem dX9_value_130 : decode cX9_value 130 = .ok (.isub, 1) := by decide +kernel
theorem dX9_value_131 : decode cX9_value 131 = .ok (.iaload, 1) := by decide +kernel
theorem dX9_value_132 : decode cX9_value 132 = .ok (.isub, 1) := by decide +kernel
theorem dX9_value_133 : decode cX9_value 133 = .ok (.iastore, 1) := by decide +kernel
theorem dX9_value_134 : decode cX9_value 134 = .ok (.goto 33, 3) := by decide +kernel
theorem dX9_value_137 : decode cX9_value 137 = .ok (.iinc 2 (-1), 3) := by decide +kernel
theorem dX9_value_140 : decode cX9_value 140 = .ok (.aload_n 0, 1) := by decide +kernel
theorem dX9_value_141 : decode cX9_value 141 = .ok (.getfield 65, 3) := by decide +kernel
theorem dX9_value_144 : decode cX9_value 144 = .ok (.iload_n 2, 1) := by decide +kernel
theorem dX9_value_145 : decode cX9_value 145 = .ok (.iconst 1, 1) := by decide +kernel
theorem dX9_value_146 : decode cX9_value 146 = .ok (.isub, 1) := by decide +kernel
theorem dX9_value_147 : decode cX9_value 147 = .ok (.iload 4, 2) := by decide +kernel
theorem dX9_value_149 : decode cX9_value 149 = .ok (.aload_n 0, 1) := by decide +kernel
theorem dX9_value_150 : decode cX9_value 150 = .ok (.getfield 65, 3) := by decide +kernel
theorem dX9_value_153 : decode cX9_value 153 = .ok (.iload_n 2, 1) := by decide +kernel
theorem dX9_value_154 : decode cX9_value 154 = .ok (.iconst 1, 1) := by decide +kernel
theorem dX9_value_155 : decode cX9_value 155 = .ok (.isub, 1) := by decide +kernel
theorem dX9_value_156 : decode cX9_value 156 = .ok (.iaload, 1) := by decide +kernel
theorem dX9_value_157 : decode cX9_value 157 = .ok (.aload_n 0, 1) := by decide +kernel
theorem dX9_value_158 : decode cX9_value 158 = .ok (.getfield 65, 3) := by decide +kernel
theorem dX9_value_161 : decode cX9_value 161 = .ok (.iload_n 2, 1) := by decide +kernel
theorem dX9_value_162 : decode cX9_value 162 = .ok (.iaload, 1) := by decide +kernel
theorem dX9_value_163 : decode cX9_value 163 = .ok (.invokestatic 96, 3) := by decide +kernel
theorem dX9_value_166 : decode cX9_value 166 = .ok (.iastore, 1) := by decide +kernel
theorem dX9_value_167 : decode cX9_value 167 = .ok (.iinc 3 1, 3) := by decide +kernel
theorem dX9_value_170 : decode cX9_value 170 = .ok (.goto (-163), 3) := by decide +kernel
theorem dX9_value_173 : decode cX9_value 173 = .ok (.aload_n 0, 1) := by decide +kernel
theorem dX9_value_174 : decode cX9_value 174 = .ok (.getfield 65, 3) := by decide +kernel
theorem dX9_value_177 : decode cX9_value 177 = .ok (.iconst 0, 1) := by decide +kernel
theorem dX9_value_178 : decode cX9_value 178 = .ok (.iaload, 1) := by decide +kernel
theorem dX9_value_179 : decode cX9_value 179 = .ok (.ireturn, 1) := by decide +kernel
theorem dX9_index_0 : decode cX9_index 0 = .ok (.aload_n 0, 1) := by decide +kernel
theorem dX9_index_1 : decode cX9_index 1 = .ok (.getfield 85, 3) := by decide +kernel
theorem dX9_index_4 : decode cX9_index 4 = .ok (.ifCond .eq 32, 3) := by decide +kernel
theorem dX9_index_7 : decode cX9_index 7 = .ok (.aload_n 0, 1) := by decide +kernel
theorem dX9_index_8 : decode cX9_index 8 = .ok (.getfield 19, 3) := by decide +kernel
theorem dX9_index_11 : decode cX9_index 11 = .ok (.aload_n 0, 1) := by decide +kernel
theorem dX9_index_12 : decode cX9_index 12 = .ok (.getfield 85, 3) := by decide +kernel
theorem dX9_index_15 : decode cX9_index 15 = .ok (.iconst 1, 1) := by decide +kernel
theorem dX9_index_16 : decode cX9_index 16 = .ok (.isub, 1) := by decide +kernel
theorem dX9_index_17 : decode cX9_index 17 = .ok (.baload, 1) := by decide +kernel
theorem dX9_index_18 : decode cX9_index 18 = .ok (.ifCond .ne 18, 3) := by decide +kernel
theorem dX9_index_21 : decode cX9_index 21 = .ok (.aload_n 0, 1) := by decide +kernel
theorem dX9_index_22 : decode cX9_index 22 = .ok (.getfield 100, 3) := by decide +kernel
theorem dX9_index_25 : decode cX9_index 25 = .ok (.iconst 3, 1) := by decide +kernel
theorem dX9_index_26 : decode cX9_index 26 = .ok (.if_icmp .eq 10, 3) := by decide +kernel
theorem dX9_index_29 : decode cX9_index 29 = .ok (.aload_n 0, 1) := by decide +kernel
theorem dX9_index_30 : decode cX9_index 30 = .ok (.getfield 103, 3) := by decide +kernel
theorem dX9_index_33 : decode cX9_index 33 = .ok (.ifCond .le 5, 3) := by decide +kernel
theorem dX9_index_36 : decode cX9_index 36 = .ok (.iconst (-1), 1) := by decide +kernel
theorem dX9_index_37 : decode cX9_index 37 = .ok (.ireturn, 1) := by decide +kernel
theorem dX9_index_38 : decode cX9_index 38 = .ok (.bipush 15, 2) := by decide +kernel
theorem dX9_index_40 : decode cX9_index 40 = .ok (.aload_n 0, 1) := by decide +kernel
theorem dX9_index_41 : decode cX9_index 41 = .ok (.getfield 85, 3) := by decide +kernel
theorem dX9_index_44 : decode cX9_index 44 = .ok (.iconst 1, 1) := by decide +kernel
theorem dX9_index_45 : decode cX9_index 45 = .ok (.isub, 1) := by decide +kernel
theorem dX9_index_46 : decode cX9_index 46 = .ok (.imul, 1) := by decide +kernel
theorem dX9_index_47 : decode cX9_index 47 = .ok (.istore_n 1, 1) := by decide +kernel
theorem dX9_index_48 : decode cX9_index 48 = .ok (.bipush 15, 2) := by decide +kernel
theorem dX9_index_50 : decode cX9_index 50 = .ok (.bipush 8, 2) := by decide +kernel
theorem dX9_index_52 : decode cX9_index 52 = .ok (.aload_n 0, 1) := by decide +kernel
theorem dX9_index_53 : decode cX9_index 53 = .ok (.getfield 100, 3) := by decide +kernel
theorem dX9_index_56 : decode cX9_index 56 = .ok (.iadd, 1) := by decide +kernel
theorem dX9_index_57 : decode cX9_index 57 = .ok (.imul, 1) := by decide +kernel
theorem dX9_index_58 : decode cX9_index 58 = .ok (.istore_n 2, 1) := by decide +kernel
theorem dX9_index_59 : decode cX9_index 59 = .ok (.iconst 0, 1) := by decide +kernel
theorem dX9_index_60 : decode cX9_index 60 = .ok (.istore_n 3, 1) := by decide +kernel
theorem dX9_index_61 : decode cX9_index 61 = .ok (.iload_n 3, 1) := by decide +kernel
theorem dX9_index_62 : decode cX9_index 62 = .ok (.bipush 15, 2) := by decide +kernel
theorem dX9_index_64 : decode cX9_index 64 = .ok (.if_icmp .ge 41, 3) := by decide +kernel
theorem dX9_index_67 : decode cX9_index 67 = .ok (.aload_n 0, 1) := by decide +kernel
theorem dX9_index_68 : decode cX9_index 68 = .ok (.getfield 13, 3) := by decide +kernel
theorem dX9_index_71 : decode cX9_index 71 = .ok (.iload_n 2, 1) := by decide +kernel
theorem dX9_index_72 : decode cX9_index 72 = .ok (.iload_n 3, 1) := by decide +kernel
theorem dX9_index_73 : decode cX9_index 73 = .ok (.iadd, 1) := by decide +kernel
theorem dX9_index_74 : decode cX9_index 74 = .ok (.aload_n 0, 1) := by decide +kernel
theorem dX9_index_75 : decode cX9_index 75 = .ok (.getfield 13, 3) := by decide +kernel
theorem dX9_index_78 : decode cX9_index 78 = .ok (.iload_n 1, 1) := by decide +kernel
theorem dX9_index_79 : decode cX9_index 79 = .ok (.iload_n 3, 1) := by decide +kernel
theorem dX9_index_80 : decode cX9_index 80 = .ok (.iadd, 1) := by decide +kernel
theorem dX9_index_81 : decode cX9_index 81 = .ok (.iaload, 1) := by decide +kernel
theorem dX9_index_82 : decode cX9_index 82 = .ok (.iastore, 1) := by decide +kernel
theorem dX9_index_83 : decode cX9_index 83 = .ok (.aload_n 0, 1) := by decide +kernel
theorem dX9_index_84 : decode cX9_index 84 = .ok (.getfield 16, 3) := by decide +kernel
theorem dX9_index_87 : decode cX9_index 87 = .ok (.iload_n 2, 1) := by decide +kernel
theorem dX9_index_88 : decode cX9_index 88 = .ok (.iload_n 3, 1) := by decide +kernel
theorem dX9_index_89 : decode cX9_index 89 = .ok (.iadd, 1) := by decide +kernel
theorem dX9_index_90 : decode cX9_index 90 = .ok (.aload_n 0, 1) := by decide +kernel
theorem dX9_index_91 : decode cX9_index 91 = .ok (.getfield 16, 3) := by decide +kernel
theorem dX9_index_94 : decode cX9_index 94 = .ok (.iload_n 1, 1) := by decide +kernel
theorem dX9_index_95 : decode cX9_index 95 = .ok (.iload_n 3, 1) := by decide +kernel
theorem dX9_index_96 : decode cX9_index 96 = .ok (.iadd, 1) := by decide +kernel
theorem dX9_index_97 : decode cX9_index 97 = .ok (.iaload, 1) := by decide +kernel
theorem dX9_index_98 : decode cX9_index 98 = .ok (.iastore, 1) := by decide +kernel
theorem dX9_index_99 : decode cX9_index 99 = .ok (.iinc 3 1, 3) := by decide +kernel
theorem dX9_index_102 : decode cX9_index 102 = .ok (.goto (-41), 3) := by decide +kernel
theorem dX9_index_105 : decode cX9_index 105 = .ok (.aload_n 0, 1) := by decide +kernel
theorem dX9_index_106 : decode cX9_index 106 = .ok (.getfield 7, 3) := by decide +kernel
theorem dX9_index_109 : decode cX9_index 109 = .ok (.bipush 8, 2) := by decide +kernel
theorem dX9_index_111 : decode cX9_index 111 = .ok (.aload_n 0, 1) := by decide +kernel
theorem dX9_index_112 : decode cX9_index 112 = .ok (.getfield 100, 3) := by decide +kernel
theorem dX9_index_115 : decode cX9_index 115 = .ok (.iadd, 1) := by decide +kernel
theorem dX9_index_116 : decode cX9_index 116 = .ok (.aload_n 0, 1) := by decide +kernel
theorem dX9_index_117 : decode cX9_index 117 = .ok (.getfield 7, 3) := by decide +kernel
theorem dX9_index_120 : decode cX9_index 120 = .ok (.aload_n 0, 1) := by decide +kernel
theorem dX9_index_121 : decode cX9_index 121 = .ok (.getfield 85, 3) := by decide +kernel
theorem dX9_index_124 : decode cX9_index 124 = .ok (.iconst 1, 1) := by decide +kernel
theorem dX9_index_125 : decode cX9_index 125 = .ok (.isub, 1) := by decide +kernel
theorem dX9_index_126 : decode cX9_index 126 = .ok (.iaload, 1) := by decide +kernel
theorem dX9_index_127 : decode cX9_index 127 = .ok (.iastore, 1) := by decide +kernel
theorem dX9_index_128 : decode cX9_index 128 = .ok (.aload_n 0, 1) := by decide +kernel
theorem dX9_index_129 : decode cX9_index 129 = .ok (.dup, 1) := by decide +kernel
theorem dX9_index_130 : decode cX9_index 130 = .ok (.getfield 85, 3) := by decide +kernel
theorem dX9_index_133 : decode cX9_index 133 = .ok (.iconst 1, 1) := by decide +kernel
theorem dX9_index_134 : decode cX9_index 134 = .ok (.isub, 1) := by decide +kernel
theorem dX9_index_135 : decode cX9_index 135 = .ok (.putfield 85, 3) := by decide +kernel
theorem dX9_index_138 : decode cX9_index 138 = .ok (.aload_n 0, 1) := by decide +kernel
theorem dX9_index_139 : decode cX9_index 139 = .ok (.dup, 1) := by decide +kernel
theorem dX9_index_140 : decode cX9_index 140 = .ok (.getfield 100, 3) := by decide +kernel
theorem dX9_index_143 : decode cX9_index 143 = .ok (.iconst 1, 1) := by decide +kernel
theorem dX9_index_144 : decode cX9_index 144 = .ok (.iadd, 1) := by decide +kernel
theorem dX9_index_145 : decode cX9_index 145 = .ok (.putfield 100, 3) := by decide +kernel
theorem dX9_index_148 : decode cX9_index 148 = .ok (.aload_n 0, 1) := by decide +kernel
theorem dX9_index_149 : decode cX9_index 149 = .ok (.getfield 100, 3) := by decide +kernel
theorem dX9_index_152 : decode cX9_index 152 = .ok (.iconst 1, 1) := by decide +kernel
theorem dX9_index_153 : decode cX9_index 153 = .ok (.isub, 1) := by decide +kernel
theorem dX9_index_154 : decode cX9_index 154 = .ok (.ireturn, 1) := by decide +kernel
theorem dX9_seen_0 : decode cX9_seen 0 = .ok (.iconst (-1), 1) := by decide +kernel
theorem dX9_seen_1 : decode cX9_seen 1 = .ok (.istore 5, 2) := by decide +kernel
theorem dX9_seen_3 : decode cX9_seen 3 = .ok (.iconst 0, 1) := by decide +kernel
theorem dX9_seen_4 : decode cX9_seen 4 = .ok (.istore 6, 2) := by decide +kernel
theorem dX9_seen_6 : decode cX9_seen 6 = .ok (.iload 6, 2) := by decide +kernel
theorem dX9_seen_8 : decode cX9_seen 8 = .ok (.aload_n 0, 1) := by decide +kernel
theorem dX9_seen_9 : decode cX9_seen 9 = .ok (.getfield 106, 3) := by decide +kernel
theorem dX9_seen_12 : decode cX9_seen 12 = .ok (.if_icmp .ge 80, 3) := by decide +kernel
theorem dX9_seen_15 : decode cX9_seen 15 = .ok (.aload_n 0, 1) := by decide +kernel
theorem dX9_seen_16 : decode cX9_seen 16 = .ok (.getfield 23, 3) := by decide +kernel
theorem dX9_seen_19 : decode cX9_seen 19 = .ok (.iload 6, 2) := by decide +kernel
theorem dX9_seen_21 : decode cX9_seen 21 = .ok (.iaload, 1) := by decide +kernel
theorem dX9_seen_22 : decode cX9_seen 22 = .ok (.iload_n 1, 1) := by decide +kernel
theorem dX9_seen_23 : decode cX9_seen 23 = .ok (.if_icmp .ne 63, 3) := by decide +kernel
theorem dX9_seen_26 : decode cX9_seen 26 = .ok (.aload_n 0, 1) := by decide +kernel
theorem dX9_seen_27 : decode cX9_seen 27 = .ok (.getfield 26, 3) := by decide +kernel
theorem dX9_seen_30 : decode cX9_seen 30 = .ok (.iload 6, 2) := by decide +kernel
theorem dX9_seen_32 : decode cX9_seen 32 = .ok (.iaload, 1) := by decide +kernel
theorem dX9_seen_33 : decode cX9_seen 33 = .ok (.iload_n 2, 1) := by decide +kernel
theorem dX9_seen_34 : decode cX9_seen 34 = .ok (.if_icmp .ne 52, 3) := by decide +kernel
theorem dX9_seen_37 : decode cX9_seen 37 = .ok (.aload_n 0, 1) := by decide +kernel
theorem dX9_seen_38 : decode cX9_seen 38 = .ok (.getfield 29, 3) := by decide +kernel
theorem dX9_seen_41 : decode cX9_seen 41 = .ok (.iload 6, 2) := by decide +kernel
theorem dX9_seen_43 : decode cX9_seen 43 = .ok (.iaload, 1) := by decide +kernel
theorem dX9_seen_44 : decode cX9_seen 44 = .ok (.iload_n 3, 1) := by decide +kernel
theorem dX9_seen_45 : decode cX9_seen 45 = .ok (.if_icmp .ne 41, 3) := by decide +kernel
theorem dX9_seen_48 : decode cX9_seen 48 = .ok (.aload_n 0, 1) := by decide +kernel
theorem dX9_seen_49 : decode cX9_seen 49 = .ok (.getfield 32, 3) := by decide +kernel
theorem dX9_seen_52 : decode cX9_seen 52 = .ok (.iload 6, 2) := by decide +kernel
theorem dX9_seen_54 : decode cX9_seen 54 = .ok (.iaload, 1) := by decide +kernel
theorem dX9_seen_55 : decode cX9_seen 55 = .ok (.iload 4, 2) := by decide +kernel
theorem dX9_seen_57 : decode cX9_seen 57 = .ok (.if_icmp .gt 29, 3) := by decide +kernel
theorem dX9_seen_60 : decode cX9_seen 60 = .ok (.iload 5, 2) := by decide +kernel
theorem dX9_seen_62 : decode cX9_seen 62 = .ok (.ifCond .lt 20, 3) := by decide +kernel
theorem dX9_seen_65 : decode cX9_seen 65 = .ok (.aload_n 0, 1) := by decide +kernel
theorem dX9_seen_66 : decode cX9_seen 66 = .ok (.getfield 32, 3) := by decide +kernel
theorem dX9_seen_69 : decode cX9_seen 69 = .ok (.iload 6, 2) := by decide +kernel
theorem dX9_seen_71 : decode cX9_seen 71 = .ok (.iaload, 1) := by decide +kernel
theorem dX9_seen_72 : decode cX9_seen 72 = .ok (.aload_n 0, 1) := by decide +kernel
theorem dX9_seen_73 : decode cX9_seen 73 = .ok (.getfield 32, 3) := by decide +kernel
theorem dX9_seen_76 : decode cX9_seen 76 = .ok (.iload 5, 2) := by decide +kernel
theorem dX9_seen_78 : decode cX9_seen 78 = .ok (.iaload, 1) := by decide +kernel
theorem dX9_seen_79 : decode cX9_seen 79 = .ok (.if_icmp .le 7, 3) := by decide +kernel
theorem dX9_seen_82 : decode cX9_seen 82 = .ok (.iload 6, 2) := by decide +kernel
theorem dX9_seen_84 : decode cX9_seen 84 = .ok (.istore 5, 2) := by decide +kernel
theorem dX9_seen_86 : decode cX9_seen 86 = .ok (.iinc 6 1, 3) := by decide +kernel
theorem dX9_seen_89 : decode cX9_seen 89 = .ok (.goto (-83), 3) := by decide +kernel
theorem dX9_seen_92 : decode cX9_seen 92 = .ok (.iload 5, 2) := by decide +kernel
theorem dX9_seen_94 : decode cX9_seen 94 = .ok (.ireturn, 1) := by decide +kernel
theorem dX9_rowAt_0 : decode cX9_rowAt 0 = .ok (.aload_n 0, 1) := by decide +kernel
theorem dX9_rowAt_1 : decode cX9_rowAt 1 = .ok (.iconst 0, 1) := by decide +kernel
theorem dX9_rowAt_2 : decode cX9_rowAt 2 = .ok (.iconst 0, 1) := by decide +kernel
theorem dX9_rowAt_3 : decode cX9_rowAt 3 = .ok (.iload_n 1, 1) := by decide +kernel
theorem dX9_rowAt_4 : decode cX9_rowAt 4 = .ok (.iload_n 2, 1) := by decide +kernel
theorem dX9_rowAt_5 : decode cX9_rowAt 5 = .ok (.invokevirtual 109, 3) := by decide +kernel
theorem dX9_rowAt_8 : decode cX9_rowAt 8 = .ok (.istore_n 3, 1) := by decide +kernel
theorem dX9_rowAt_9 : decode cX9_rowAt 9 = .ok (.iload_n 3, 1) := by decide +kernel
theorem dX9_rowAt_10 : decode cX9_rowAt 10 = .ok (.ifCond .lt 16, 3) := by decide +kernel
theorem dX9_rowAt_13 : decode cX9_rowAt 13 = .ok (.aload_n 0, 1) := by decide +kernel
theorem dX9_rowAt_14 : decode cX9_rowAt 14 = .ok (.getfield 35, 3) := by decide +kernel
theorem dX9_rowAt_17 : decode cX9_rowAt 17 = .ok (.iload_n 3, 1) := by decide +kernel
theorem dX9_rowAt_18 : decode cX9_rowAt 18 = .ok (.baload, 1) := by decide +kernel
theorem dX9_rowAt_19 : decode cX9_rowAt 19 = .ok (.ifCond .eq 7, 3) := by decide +kernel
theorem dX9_rowAt_22 : decode cX9_rowAt 22 = .ok (.iconst 1, 1) := by decide +kernel
theorem dX9_rowAt_23 : decode cX9_rowAt 23 = .ok (.goto 4, 3) := by decide +kernel
theorem dX9_rowAt_26 : decode cX9_rowAt 26 = .ok (.iconst 0, 1) := by decide +kernel
theorem dX9_rowAt_27 : decode cX9_rowAt 27 = .ok (.istore 4, 2) := by decide +kernel
theorem dX9_rowAt_29 : decode cX9_rowAt 29 = .ok (.iconst 0, 1) := by decide +kernel
theorem dX9_rowAt_30 : decode cX9_rowAt 30 = .ok (.istore 5, 2) := by decide +kernel
theorem dX9_rowAt_32 : decode cX9_rowAt 32 = .ok (.iload 5, 2) := by decide +kernel
theorem dX9_rowAt_34 : decode cX9_rowAt 34 = .ok (.iconst 3, 1) := by decide +kernel
theorem dX9_rowAt_35 : decode cX9_rowAt 35 = .ok (.if_icmp .ge 36, 3) := by decide +kernel
theorem dX9_rowAt_38 : decode cX9_rowAt 38 = .ok (.aload_n 0, 1) := by decide +kernel
theorem dX9_rowAt_39 : decode cX9_rowAt 39 = .ok (.getfield 62, 3) := by decide +kernel
theorem dX9_rowAt_42 : decode cX9_rowAt 42 = .ok (.iload 5, 2) := by decide +kernel
theorem dX9_rowAt_44 : decode cX9_rowAt 44 = .ok (.iload 4, 2) := by decide +kernel
theorem dX9_rowAt_46 : decode cX9_rowAt 46 = .ok (.ifCond .eq 17, 3) := by decide +kernel
theorem dX9_rowAt_49 : decode cX9_rowAt 49 = .ok (.aload_n 0, 1) := by decide +kernel
theorem dX9_rowAt_50 : decode cX9_rowAt 50 = .ok (.getfield 38, 3) := by decide +kernel
theorem dX9_rowAt_53 : decode cX9_rowAt 53 = .ok (.iconst 3, 1) := by decide +kernel
theorem dX9_rowAt_54 : decode cX9_rowAt 54 = .ok (.iload_n 3, 1) := by decide +kernel
theorem dX9_rowAt_55 : decode cX9_rowAt 55 = .ok (.imul, 1) := by decide +kernel
theorem dX9_rowAt_56 : decode cX9_rowAt 56 = .ok (.iload 5, 2) := by decide +kernel
theorem dX9_rowAt_58 : decode cX9_rowAt 58 = .ok (.iadd, 1) := by decide +kernel
theorem dX9_rowAt_59 : decode cX9_rowAt 59 = .ok (.iaload, 1) := by decide +kernel
theorem dX9_rowAt_60 : decode cX9_rowAt 60 = .ok (.goto 4, 3) := by decide +kernel
theorem dX9_rowAt_63 : decode cX9_rowAt 63 = .ok (.iconst 0, 1) := by decide +kernel
theorem dX9_rowAt_64 : decode cX9_rowAt 64 = .ok (.iastore, 1) := by decide +kernel
theorem dX9_rowAt_65 : decode cX9_rowAt 65 = .ok (.iinc 5 1, 3) := by decide +kernel
theorem dX9_rowAt_68 : decode cX9_rowAt 68 = .ok (.goto (-36), 3) := by decide +kernel
theorem dX9_rowAt_71 : decode cX9_rowAt 71 = .ok (.iload 4, 2) := by decide +kernel
theorem dX9_rowAt_73 : decode cX9_rowAt 73 = .ok (.ireturn, 1) := by decide +kernel
theorem dX9_rowFor_0 : decode cX9_rowFor 0 = .ok (.aload_n 0, 1) := by decide +kernel
theorem dX9_rowFor_1 : decode cX9_rowFor 1 = .ok (.getfield 56, 3) := by decide +kernel
theorem dX9_rowFor_4 : decode cX9_rowFor 4 = .ok (.bipush 32, 2) := by decide +kernel
theorem dX9_rowFor_6 : decode cX9_rowFor 6 = .ok (.iload_n 1, 1) := by decide +kernel
theorem dX9_rowFor_7 : decode cX9_rowFor 7 = .ok (.imul, 1) := by decide +kernel
theorem dX9_rowFor_8 : decode cX9_rowFor 8 = .ok (.iload_n 2, 1) := by decide +kernel
theorem dX9_rowFor_9 : decode cX9_rowFor 9 = .ok (.iadd, 1) := by decide +kernel
theorem dX9_rowFor_10 : decode cX9_rowFor 10 = .ok (.iaload, 1) := by decide +kernel
theorem dX9_rowFor_11 : decode cX9_rowFor 11 = .ok (.istore_n 3, 1) := by decide +kernel
theorem dX9_rowFor_12 : decode cX9_rowFor 12 = .ok (.iload_n 3, 1) := by decide +kernel
theorem dX9_rowFor_13 : decode cX9_rowFor 13 = .ok (.ifCond .ne 15, 3) := by decide +kernel
theorem dX9_rowFor_16 : decode cX9_rowFor 16 = .ok (.aload_n 0, 1) := by decide +kernel
theorem dX9_rowFor_17 : decode cX9_rowFor 17 = .ok (.iload_n 2, 1) := by decide +kernel
theorem dX9_rowFor_18 : decode cX9_rowFor 18 = .ok (.aload_n 0, 1) := by decide +kernel
theorem dX9_rowFor_19 : decode cX9_rowFor 19 = .ok (.getfield 53, 3) := by decide +kernel
theorem dX9_rowFor_22 : decode cX9_rowFor 22 = .ok (.iload_n 1, 1) := by decide +kernel
theorem dX9_rowFor_23 : decode cX9_rowFor 23 = .ok (.iaload, 1) := by decide +kernel
theorem dX9_rowFor_24 : decode cX9_rowFor 24 = .ok (.invokevirtual 113, 3) := by decide +kernel
theorem dX9_rowFor_27 : decode cX9_rowFor 27 = .ok (.ireturn, 1) := by decide +kernel
theorem dX9_rowFor_28 : decode cX9_rowFor 28 = .ok (.iconst 0, 1) := by decide +kernel
theorem dX9_rowFor_29 : decode cX9_rowFor 29 = .ok (.istore 4, 2) := by decide +kernel
theorem dX9_rowFor_31 : decode cX9_rowFor 31 = .ok (.iload 4, 2) := by decide +kernel
theorem dX9_rowFor_33 : decode cX9_rowFor 33 = .ok (.iconst 3, 1) := by decide +kernel
theorem dX9_rowFor_34 : decode cX9_rowFor 34 = .ok (.if_icmp .ge 41, 3) := by decide +kernel
theorem dX9_rowFor_37 : decode cX9_rowFor 37 = .ok (.aload_n 0, 1) := by decide +kernel
theorem dX9_rowFor_38 : decode cX9_rowFor 38 = .ok (.getfield 62, 3) := by decide +kernel
theorem dX9_rowFor_41 : decode cX9_rowFor 41 = .ok (.iload 4, 2) := by decide +kernel
theorem dX9_rowFor_43 : decode cX9_rowFor 43 = .ok (.iload_n 3, 1) := by decide +kernel
theorem dX9_rowFor_44 : decode cX9_rowFor 44 = .ok (.iconst 1, 1) := by decide +kernel
theorem dX9_rowFor_45 : decode cX9_rowFor 45 = .ok (.if_icmp .ne 22, 3) := by decide +kernel
theorem dX9_rowFor_48 : decode cX9_rowFor 48 = .ok (.aload_n 0, 1) := by decide +kernel
theorem dX9_rowFor_49 : decode cX9_rowFor 49 = .ok (.getfield 59, 3) := by decide +kernel
theorem dX9_rowFor_52 : decode cX9_rowFor 52 = .ok (.iconst 3, 1) := by decide +kernel
theorem dX9_rowFor_53 : decode cX9_rowFor 53 = .ok (.bipush 32, 2) := by decide +kernel
theorem dX9_rowFor_55 : decode cX9_rowFor 55 = .ok (.iload_n 1, 1) := by decide +kernel
theorem dX9_rowFor_56 : decode cX9_rowFor 56 = .ok (.imul, 1) := by decide +kernel
theorem dX9_rowFor_57 : decode cX9_rowFor 57 = .ok (.iload_n 2, 1) := by decide +kernel
theorem dX9_rowFor_58 : decode cX9_rowFor 58 = .ok (.iadd, 1) := by decide +kernel
theorem dX9_rowFor_59 : decode cX9_rowFor 59 = .ok (.imul, 1) := by decide +kernel
theorem dX9_rowFor_60 : decode cX9_rowFor 60 = .ok (.iload 4, 2) := by decide +kernel
theorem dX9_rowFor_62 : decode cX9_rowFor 62 = .ok (.iadd, 1) := by decide +kernel
theorem dX9_rowFor_63 : decode cX9_rowFor 63 = .ok (.iaload, 1) := by decide +kernel
theorem dX9_rowFor_64 : decode cX9_rowFor 64 = .ok (.goto 4, 3) := by decide +kernel
theorem dX9_rowFor_67 : decode cX9_rowFor 67 = .ok (.iconst 0, 1) := by decide +kernel
theorem dX9_rowFor_68 : decode cX9_rowFor 68 = .ok (.iastore, 1) := by decide +kernel
theorem dX9_rowFor_69 : decode cX9_rowFor 69 = .ok (.iinc 4 1, 3) := by decide +kernel
theorem dX9_rowFor_72 : decode cX9_rowFor 72 = .ok (.goto (-41), 3) := by decide +kernel
theorem dX9_rowFor_75 : decode cX9_rowFor 75 = .ok (.iload_n 3, 1) := by decide +kernel
theorem dX9_rowFor_76 : decode cX9_rowFor 76 = .ok (.iconst 1, 1) := by decide +kernel
theorem dX9_rowFor_77 : decode cX9_rowFor 77 = .ok (.if_icmp .ne 7, 3) := by decide +kernel
theorem dX9_rowFor_80 : decode cX9_rowFor 80 = .ok (.iconst 1, 1) := by decide +kernel
theorem dX9_rowFor_81 : decode cX9_rowFor 81 = .ok (.goto 4, 3) := by decide +kernel
theorem dX9_rowFor_84 : decode cX9_rowFor 84 = .ok (.iconst 0, 1) := by decide +kernel
theorem dX9_rowFor_85 : decode cX9_rowFor 85 = .ok (.ireturn, 1) := by decide +kernel
theorem dX9_open_0 : decode cX9_open 0 = .ok (.iload_n 1, 1) := by decide +kernel
theorem dX9_open_1 : decode cX9_open 1 = .ok (.ifCond .lt 25, 3) := by decide +kernel
theorem dX9_open_4 : decode cX9_open 4 = .ok (.iload_n 1, 1) := by decide +kernel
theorem dX9_open_5 : decode cX9_open 5 = .ok (.aload_n 0, 1) := by decide +kernel
theorem dX9_open_6 : decode cX9_open 6 = .ok (.getfield 116, 3) := by decide +kernel
theorem dX9_open_9 : decode cX9_open 9 = .ok (.if_icmp .ge 17, 3) := by decide +kernel
theorem dX9_open_12 : decode cX9_open 12 = .ok (.aload_n 0, 1) := by decide +kernel
theorem dX9_open_13 : decode cX9_open 13 = .ok (.getfield 50, 3) := by decide +kernel
theorem dX9_open_16 : decode cX9_open 16 = .ok (.iload_n 1, 1) := by decide +kernel
theorem dX9_open_17 : decode cX9_open 17 = .ok (.iaload, 1) := by decide +kernel
theorem dX9_open_18 : decode cX9_open 18 = .ok (.iconst 1, 1) := by decide +kernel
theorem dX9_open_19 : decode cX9_open 19 = .ok (.if_icmp .ne 7, 3) := by decide +kernel
theorem dX9_open_22 : decode cX9_open 22 = .ok (.iconst 1, 1) := by decide +kernel
theorem dX9_open_23 : decode cX9_open 23 = .ok (.goto 4, 3) := by decide +kernel
theorem dX9_open_26 : decode cX9_open 26 = .ok (.iconst 0, 1) := by decide +kernel
theorem dX9_open_27 : decode cX9_open 27 = .ok (.ireturn, 1) := by decide +kernel
theorem dX9_opens_0 : decode cX9_opens 0 = .ok (.iconst 0, 1) := by decide +kernel
theorem dX9_opens_1 : decode cX9_opens 1 = .ok (.istore_n 1, 1) := by decide +kernel
theorem dX9_opens_2 : decode cX9_opens 2 = .ok (.iconst 0, 1) := by decide +kernel
theorem dX9_opens_3 : decode cX9_opens 3 = .ok (.istore_n 2, 1) := by decide +kernel
theorem dX9_opens_4 : decode cX9_opens 4 = .ok (.iload_n 2, 1) := by decide +kernel
theorem dX9_opens_5 : decode cX9_opens 5 = .ok (.aload_n 0, 1) := by decide +kernel
theorem dX9_opens_6 : decode cX9_opens 6 = .ok (.getfield 116, 3) := by decide +kernel
theorem dX9_opens_9 : decode cX9_opens 9 = .ok (.if_icmp .ge 27, 3) := by decide +kernel
theorem dX9_opens_12 : decode cX9_opens 12 = .ok (.iload_n 1, 1) := by decide +kernel
theorem dX9_opens_13 : decode cX9_opens 13 = .ok (.aload_n 0, 1) := by decide +kernel
theorem dX9_opens_14 : decode cX9_opens 14 = .ok (.getfield 50, 3) := by decide +kernel
theorem dX9_opens_17 : decode cX9_opens 17 = .ok (.iload_n 2, 1) := by decide +kernel
theorem dX9_opens_18 : decode cX9_opens 18 = .ok (.iaload, 1) := by decide +kernel
theorem dX9_opens_19 : decode cX9_opens 19 = .ok (.iconst 1, 1) := by decide +kernel
theorem dX9_opens_20 : decode cX9_opens 20 = .ok (.if_icmp .ne 7, 3) := by decide +kernel
theorem dX9_opens_23 : decode cX9_opens 23 = .ok (.iconst 1, 1) := by decide +kernel
theorem dX9_opens_24 : decode cX9_opens 24 = .ok (.goto 4, 3) := by decide +kernel
theorem dX9_opens_27 : decode cX9_opens 27 = .ok (.iconst 0, 1) := by decide +kernel
theorem dX9_opens_28 : decode cX9_opens 28 = .ok (.iadd, 1) := by decide +kernel
theorem dX9_opens_29 : decode cX9_opens 29 = .ok (.istore_n 1, 1) := by decide +kernel
theorem dX9_opens_30 : decode cX9_opens 30 = .ok (.iinc 2 1, 3) := by decide +kernel
theorem dX9_opens_33 : decode cX9_opens 33 = .ok (.goto (-29), 3) := by decide +kernel
theorem dX9_opens_36 : decode cX9_opens 36 = .ok (.iload_n 1, 1) := by decide +kernel
theorem dX9_opens_37 : decode cX9_opens 37 = .ok (.ireturn, 1) := by decide +kernel
theorem dX9_horizon_0 : decode cX9_horizon 0 = .ok (.aload_n 0, 1) := by decide +kernel
theorem dX9_horizon_1 : decode cX9_horizon 1 = .ok (.getfield 103, 3) := by decide +kernel
theorem dX9_horizon_4 : decode cX9_horizon 4 = .ok (.istore_n 1, 1) := by decide +kernel
theorem dX9_horizon_5 : decode cX9_horizon 5 = .ok (.iconst 0, 1) := by decide +kernel
theorem dX9_horizon_6 : decode cX9_horizon 6 = .ok (.istore_n 2, 1) := by decide +kernel
theorem dX9_horizon_7 : decode cX9_horizon 7 = .ok (.iload_n 2, 1) := by decide +kernel
theorem dX9_horizon_8 : decode cX9_horizon 8 = .ok (.aload_n 0, 1) := by decide +kernel
theorem dX9_horizon_9 : decode cX9_horizon 9 = .ok (.getfield 116, 3) := by decide +kernel
theorem dX9_horizon_12 : decode cX9_horizon 12 = .ok (.if_icmp .ge 40, 3) := by decide +kernel
theorem dX9_horizon_15 : decode cX9_horizon 15 = .ok (.aload_n 0, 1) := by decide +kernel
theorem dX9_horizon_16 : decode cX9_horizon 16 = .ok (.getfield 50, 3) := by decide +kernel
theorem dX9_horizon_19 : decode cX9_horizon 19 = .ok (.iload_n 2, 1) := by decide +kernel
theorem dX9_horizon_20 : decode cX9_horizon 20 = .ok (.iaload, 1) := by decide +kernel
theorem dX9_horizon_21 : decode cX9_horizon 21 = .ok (.iconst 1, 1) := by decide +kernel
theorem dX9_horizon_22 : decode cX9_horizon 22 = .ok (.if_icmp .ne 22, 3) := by decide +kernel
theorem dX9_horizon_25 : decode cX9_horizon 25 = .ok (.aload_n 0, 1) := by decide +kernel
theorem dX9_horizon_26 : decode cX9_horizon 26 = .ok (.getfield 53, 3) := by decide +kernel
theorem dX9_horizon_29 : decode cX9_horizon 29 = .ok (.iload_n 2, 1) := by decide +kernel
theorem dX9_horizon_30 : decode cX9_horizon 30 = .ok (.iaload, 1) := by decide +kernel
theorem dX9_horizon_31 : decode cX9_horizon 31 = .ok (.iload_n 1, 1) := by decide +kernel
theorem dX9_horizon_32 : decode cX9_horizon 32 = .ok (.if_icmp .ge 12, 3) := by decide +kernel
theorem dX9_horizon_35 : decode cX9_horizon 35 = .ok (.aload_n 0, 1) := by decide +kernel
theorem dX9_horizon_36 : decode cX9_horizon 36 = .ok (.getfield 53, 3) := by decide +kernel
theorem dX9_horizon_39 : decode cX9_horizon 39 = .ok (.iload_n 2, 1) := by decide +kernel
theorem dX9_horizon_40 : decode cX9_horizon 40 = .ok (.iaload, 1) := by decide +kernel
theorem dX9_horizon_41 : decode cX9_horizon 41 = .ok (.goto 4, 3) := by decide +kernel
theorem dX9_horizon_44 : decode cX9_horizon 44 = .ok (.iload_n 1, 1) := by decide +kernel
theorem dX9_horizon_45 : decode cX9_horizon 45 = .ok (.istore_n 1, 1) := by decide +kernel
theorem dX9_horizon_46 : decode cX9_horizon 46 = .ok (.iinc 2 1, 3) := by decide +kernel
theorem dX9_horizon_49 : decode cX9_horizon 49 = .ok (.goto (-42), 3) := by decide +kernel
theorem dX9_horizon_52 : decode cX9_horizon 52 = .ok (.iload_n 1, 1) := by decide +kernel
theorem dX9_horizon_53 : decode cX9_horizon 53 = .ok (.ireturn, 1) := by decide +kernel
theorem dX9_inFile_0 : decode cX9_inFile 0 = .ok (.iconst 0, 1) := by decide +kernel
theorem dX9_inFile_1 : decode cX9_inFile 1 = .ok (.istore_n 2, 1) := by decide +kernel
theorem dX9_inFile_2 : decode cX9_inFile 2 = .ok (.iconst 0, 1) := by decide +kernel
theorem dX9_inFile_3 : decode cX9_inFile 3 = .ok (.istore_n 3, 1) := by decide +kernel
theorem dX9_inFile_4 : decode cX9_inFile 4 = .ok (.iload_n 3, 1) := by decide +kernel
theorem dX9_inFile_5 : decode cX9_inFile 5 = .ok (.aload_n 0, 1) := by decide +kernel
theorem dX9_inFile_6 : decode cX9_inFile 6 = .ok (.getfield 106, 3) := by decide +kernel
theorem dX9_inFile_9 : decode cX9_inFile 9 = .ok (.if_icmp .ge 27, 3) := by decide +kernel
theorem dX9_inFile_12 : decode cX9_inFile 12 = .ok (.iload_n 2, 1) := by decide +kernel
theorem dX9_inFile_13 : decode cX9_inFile 13 = .ok (.aload_n 0, 1) := by decide +kernel
theorem dX9_inFile_14 : decode cX9_inFile 14 = .ok (.getfield 41, 3) := by decide +kernel
theorem dX9_inFile_17 : decode cX9_inFile 17 = .ok (.iload_n 3, 1) := by decide +kernel
theorem dX9_inFile_18 : decode cX9_inFile 18 = .ok (.iaload, 1) := by decide +kernel
theorem dX9_inFile_19 : decode cX9_inFile 19 = .ok (.iload_n 1, 1) := by decide +kernel
theorem dX9_inFile_20 : decode cX9_inFile 20 = .ok (.if_icmp .ne 7, 3) := by decide +kernel
theorem dX9_inFile_23 : decode cX9_inFile 23 = .ok (.iconst 1, 1) := by decide +kernel
theorem dX9_inFile_24 : decode cX9_inFile 24 = .ok (.goto 4, 3) := by decide +kernel
theorem dX9_inFile_27 : decode cX9_inFile 27 = .ok (.iconst 0, 1) := by decide +kernel
theorem dX9_inFile_28 : decode cX9_inFile 28 = .ok (.iadd, 1) := by decide +kernel
theorem dX9_inFile_29 : decode cX9_inFile 29 = .ok (.istore_n 2, 1) := by decide +kernel
theorem dX9_inFile_30 : decode cX9_inFile 30 = .ok (.iinc 3 1, 3) := by decide +kernel
theorem dX9_inFile_33 : decode cX9_inFile 33 = .ok (.goto (-29), 3) := by decide +kernel
theorem dX9_inFile_36 : decode cX9_inFile 36 = .ok (.iload_n 2, 1) := by decide +kernel
theorem dX9_inFile_37 : decode cX9_inFile 37 = .ok (.ireturn, 1) := by decide +kernel
theorem dX9_begin_0 : decode cX9_begin 0 = .ok (.aload_n 0, 1) := by decide +kernel
theorem dX9_begin_1 : decode cX9_begin 1 = .ok (.invokevirtual 119, 3) := by decide +kernel
theorem dX9_begin_4 : decode cX9_begin 4 = .ok (.iconst 5, 1) := by decide +kernel
theorem dX9_begin_5 : decode cX9_begin 5 = .ok (.if_icmp .eq 12, 3) := by decide +kernel
theorem dX9_begin_8 : decode cX9_begin 8 = .ok (.aload_n 0, 1) := by decide +kernel
theorem dX9_begin_9 : decode cX9_begin 9 = .ok (.getfield 116, 3) := by decide +kernel
theorem dX9_begin_12 : decode cX9_begin 12 = .ok (.bipush 60, 2) := by decide +kernel
theorem dX9_begin_14 : decode cX9_begin 14 = .ok (.if_icmp .ne 5, 3) := by decide +kernel
theorem dX9_begin_17 : decode cX9_begin 17 = .ok (.iconst (-1), 1) := by decide +kernel
theorem dX9_begin_18 : decode cX9_begin 18 = .ok (.ireturn, 1) := by decide +kernel
theorem dX9_begin_19 : decode cX9_begin 19 = .ok (.aload_n 0, 1) := by decide +kernel
theorem dX9_begin_20 : decode cX9_begin 20 = .ok (.getfield 50, 3) := by decide +kernel
theorem dX9_begin_23 : decode cX9_begin 23 = .ok (.aload_n 0, 1) := by decide +kernel
theorem dX9_begin_24 : decode cX9_begin 24 = .ok (.getfield 116, 3) := by decide +kernel
theorem dX9_begin_27 : decode cX9_begin 27 = .ok (.iconst 1, 1) := by decide +kernel
theorem dX9_begin_28 : decode cX9_begin 28 = .ok (.iastore, 1) := by decide +kernel
theorem dX9_begin_29 : decode cX9_begin 29 = .ok (.aload_n 0, 1) := by decide +kernel
theorem dX9_begin_30 : decode cX9_begin 30 = .ok (.getfield 53, 3) := by decide +kernel
theorem dX9_begin_33 : decode cX9_begin 33 = .ok (.aload_n 0, 1) := by decide +kernel
theorem dX9_begin_34 : decode cX9_begin 34 = .ok (.getfield 116, 3) := by decide +kernel
theorem dX9_begin_37 : decode cX9_begin 37 = .ok (.aload_n 0, 1) := by decide +kernel
theorem dX9_begin_38 : decode cX9_begin 38 = .ok (.getfield 103, 3) := by decide +kernel
theorem dX9_begin_41 : decode cX9_begin 41 = .ok (.iastore, 1) := by decide +kernel
theorem dX9_begin_42 : decode cX9_begin 42 = .ok (.aload_n 0, 1) := by decide +kernel
theorem dX9_begin_43 : decode cX9_begin 43 = .ok (.dup, 1) := by decide +kernel
theorem dX9_begin_44 : decode cX9_begin 44 = .ok (.getfield 116, 3) := by decide +kernel
theorem dX9_begin_47 : decode cX9_begin 47 = .ok (.iconst 1, 1) := by decide +kernel
theorem dX9_begin_48 : decode cX9_begin 48 = .ok (.iadd, 1) := by decide +kernel
theorem dX9_begin_49 : decode cX9_begin 49 = .ok (.putfield 116, 3) := by decide +kernel
theorem dX9_begin_52 : decode cX9_begin 52 = .ok (.aload_n 0, 1) := by decide +kernel
theorem dX9_begin_53 : decode cX9_begin 53 = .ok (.getfield 116, 3) := by decide +kernel
theorem dX9_begin_56 : decode cX9_begin 56 = .ok (.iconst 1, 1) := by decide +kernel
theorem dX9_begin_57 : decode cX9_begin 57 = .ok (.isub, 1) := by decide +kernel
theorem dX9_begin_58 : decode cX9_begin 58 = .ok (.ireturn, 1) := by decide +kernel
theorem dX9_read_0 : decode cX9_read 0 = .ok (.aload_n 0, 1) := by decide +kernel
theorem dX9_read_1 : decode cX9_read 1 = .ok (.iload_n 1, 1) := by decide +kernel
theorem dX9_read_2 : decode cX9_read 2 = .ok (.invokevirtual 123, 3) := by decide +kernel
theorem dX9_read_5 : decode cX9_read 5 = .ok (.ifCond .eq 19, 3) := by decide +kernel
theorem dX9_read_8 : decode cX9_read 8 = .ok (.iload_n 2, 1) := by decide +kernel
theorem dX9_read_9 : decode cX9_read 9 = .ok (.invokestatic 126, 3) := by decide +kernel
theorem dX9_read_12 : decode cX9_read 12 = .ok (.ifCond .eq 12, 3) := by decide +kernel
theorem dX9_read_15 : decode cX9_read 15 = .ok (.iload_n 3, 1) := by decide +kernel
theorem dX9_read_16 : decode cX9_read 16 = .ok (.ifCond .lt 8, 3) := by decide +kernel
theorem dX9_read_19 : decode cX9_read 19 = .ok (.iload_n 3, 1) := by decide +kernel
theorem dX9_read_20 : decode cX9_read 20 = .ok (.iconst 3, 1) := by decide +kernel
theorem dX9_read_21 : decode cX9_read 21 = .ok (.if_icmp .le 5, 3) := by decide +kernel
theorem dX9_read_24 : decode cX9_read 24 = .ok (.iconst (-1), 1) := by decide +kernel
theorem dX9_read_25 : decode cX9_read 25 = .ok (.ireturn, 1) := by decide +kernel
theorem dX9_read_26 : decode cX9_read 26 = .ok (.aload_n 0, 1) := by decide +kernel
theorem dX9_read_27 : decode cX9_read 27 = .ok (.iload_n 1, 1) := by decide +kernel
theorem dX9_read_28 : decode cX9_read 28 = .ok (.iload_n 2, 1) := by decide +kernel
theorem dX9_read_29 : decode cX9_read 29 = .ok (.invokevirtual 129, 3) := by decide +kernel
theorem dX9_read_32 : decode cX9_read 32 = .ok (.istore 4, 2) := by decide +kernel
theorem dX9_read_34 : decode cX9_read 34 = .ok (.iload_n 3, 1) := by decide +kernel
theorem dX9_read_35 : decode cX9_read 35 = .ok (.iconst 3, 1) := by decide +kernel
theorem dX9_read_36 : decode cX9_read 36 = .ok (.if_icmp .ne 16, 3) := by decide +kernel
theorem dX9_read_39 : decode cX9_read 39 = .ok (.iload 4, 2) := by decide +kernel
theorem dX9_read_41 : decode cX9_read 41 = .ok (.ifCond .eq 7, 3) := by decide +kernel
theorem dX9_read_44 : decode cX9_read 44 = .ok (.iconst 1, 1) := by decide +kernel
theorem dX9_read_45 : decode cX9_read 45 = .ok (.goto 13, 3) := by decide +kernel
theorem dX9_read_48 : decode cX9_read 48 = .ok (.iconst 0, 1) := by decide +kernel
theorem dX9_read_49 : decode cX9_read 49 = .ok (.goto 9, 3) := by decide +kernel
theorem dX9_read_52 : decode cX9_read 52 = .ok (.aload_n 0, 1) := by decide +kernel
theorem dX9_read_53 : decode cX9_read 53 = .ok (.getfield 62, 3) := by decide +kernel
theorem dX9_read_56 : decode cX9_read 56 = .ok (.iload_n 3, 1) := by decide +kernel
theorem dX9_read_57 : decode cX9_read 57 = .ok (.iaload, 1) := by decide +kernel
theorem dX9_read_58 : decode cX9_read 58 = .ok (.ireturn, 1) := by decide +kernel
theorem dX9_write_0 : decode cX9_write 0 = .ok (.aload_n 0, 1) := by decide +kernel
theorem dX9_write_1 : decode cX9_write 1 = .ok (.iload_n 1, 1) := by decide +kernel
theorem dX9_write_2 : decode cX9_write 2 = .ok (.invokevirtual 123, 3) := by decide +kernel
theorem dX9_write_5 : decode cX9_write 5 = .ok (.ifCond .eq 29, 3) := by decide +kernel
theorem dX9_write_8 : decode cX9_write 8 = .ok (.iload_n 2, 1) := by decide +kernel
theorem dX9_write_9 : decode cX9_write 9 = .ok (.invokestatic 126, 3) := by decide +kernel
theorem dX9_write_12 : decode cX9_write 12 = .ok (.ifCond .eq 22, 3) := by decide +kernel
theorem dX9_write_15 : decode cX9_write 15 = .ok (.iload 4, 2) := by decide +kernel
theorem dX9_write_17 : decode cX9_write 17 = .ok (.ifCond .lt 17, 3) := by decide +kernel
theorem dX9_write_20 : decode cX9_write 20 = .ok (.iload 4, 2) := by decide +kernel
theorem dX9_write_22 : decode cX9_write 22 = .ok (.iconst 1, 1) := by decide +kernel
theorem dX9_write_23 : decode cX9_write 23 = .ok (.if_icmp .gt 11, 3) := by decide +kernel
theorem dX9_write_26 : decode cX9_write 26 = .ok (.iload 5, 2) := by decide +kernel
theorem dX9_write_28 : decode cX9_write 28 = .ok (.invokestatic 81, 3) := by decide +kernel
theorem dX9_write_31 : decode cX9_write 31 = .ok (.ifCond .ne 5, 3) := by decide +kernel
theorem dX9_write_34 : decode cX9_write 34 = .ok (.iconst 0, 1) := by decide +kernel
theorem dX9_write_35 : decode cX9_write 35 = .ok (.ireturn, 1) := by decide +kernel
theorem dX9_write_36 : decode cX9_write 36 = .ok (.aload_n 0, 1) := by decide +kernel
theorem dX9_write_37 : decode cX9_write 37 = .ok (.getfield 56, 3) := by decide +kernel
theorem dX9_write_40 : decode cX9_write 40 = .ok (.bipush 32, 2) := by decide +kernel
theorem dX9_write_42 : decode cX9_write 42 = .ok (.iload_n 1, 1) := by decide +kernel
theorem dX9_write_43 : decode cX9_write 43 = .ok (.imul, 1) := by decide +kernel
theorem dX9_write_44 : decode cX9_write 44 = .ok (.iload_n 2, 1) := by decide +kernel
theorem dX9_write_45 : decode cX9_write 45 = .ok (.iadd, 1) := by decide +kernel
theorem dX9_write_46 : decode cX9_write 46 = .ok (.iconst 1, 1) := by decide +kernel
theorem dX9_write_47 : decode cX9_write 47 = .ok (.iastore, 1) := by decide +kernel
theorem dX9_write_48 : decode cX9_write 48 = .ok (.aload_n 0, 1) := by decide +kernel
theorem dX9_write_49 : decode cX9_write 49 = .ok (.getfield 59, 3) := by decide +kernel
theorem dX9_write_52 : decode cX9_write 52 = .ok (.iconst 3, 1) := by decide +kernel
theorem dX9_write_53 : decode cX9_write 53 = .ok (.bipush 32, 2) := by decide +kernel
theorem dX9_write_55 : decode cX9_write 55 = .ok (.iload_n 1, 1) := by decide +kernel
theorem dX9_write_56 : decode cX9_write 56 = .ok (.imul, 1) := by decide +kernel
theorem dX9_write_57 : decode cX9_write 57 = .ok (.iload_n 2, 1) := by decide +kernel
theorem dX9_write_58 : decode cX9_write 58 = .ok (.iadd, 1) := by decide +kernel
theorem dX9_write_59 : decode cX9_write 59 = .ok (.imul, 1) := by decide +kernel
theorem dX9_write_60 : decode cX9_write 60 = .ok (.iload_n 3, 1) := by decide +kernel
theorem dX9_write_61 : decode cX9_write 61 = .ok (.iastore, 1) := by decide +kernel
theorem dX9_write_62 : decode cX9_write 62 = .ok (.aload_n 0, 1) := by decide +kernel
theorem dX9_write_63 : decode cX9_write 63 = .ok (.getfield 59, 3) := by decide +kernel
theorem dX9_write_66 : decode cX9_write 66 = .ok (.iconst 3, 1) := by decide +kernel
theorem dX9_write_67 : decode cX9_write 67 = .ok (.bipush 32, 2) := by decide +kernel
theorem dX9_write_69 : decode cX9_write 69 = .ok (.iload_n 1, 1) := by decide +kernel
theorem dX9_write_70 : decode cX9_write 70 = .ok (.imul, 1) := by decide +kernel
theorem dX9_write_71 : decode cX9_write 71 = .ok (.iload_n 2, 1) := by decide +kernel
theorem dX9_write_72 : decode cX9_write 72 = .ok (.iadd, 1) := by decide +kernel
theorem dX9_write_73 : decode cX9_write 73 = .ok (.imul, 1) := by decide +kernel
theorem dX9_write_74 : decode cX9_write 74 = .ok (.iconst 1, 1) := by decide +kernel
theorem dX9_write_75 : decode cX9_write 75 = .ok (.iadd, 1) := by decide +kernel
theorem dX9_write_76 : decode cX9_write 76 = .ok (.iload 4, 2) := by decide +kernel
theorem dX9_write_78 : decode cX9_write 78 = .ok (.iastore, 1) := by decide +kernel
theorem dX9_write_79 : decode cX9_write 79 = .ok (.aload_n 0, 1) := by decide +kernel
theorem dX9_write_80 : decode cX9_write 80 = .ok (.getfield 59, 3) := by decide +kernel
theorem dX9_write_83 : decode cX9_write 83 = .ok (.iconst 3, 1) := by decide +kernel
theorem dX9_write_84 : decode cX9_write 84 = .ok (.bipush 32, 2) := by decide +kernel
theorem dX9_write_86 : decode cX9_write 86 = .ok (.iload_n 1, 1) := by decide +kernel
theorem dX9_write_87 : decode cX9_write 87 = .ok (.imul, 1) := by decide +kernel
theorem dX9_write_88 : decode cX9_write 88 = .ok (.iload_n 2, 1) := by decide +kernel
theorem dX9_write_89 : decode cX9_write 89 = .ok (.iadd, 1) := by decide +kernel
theorem dX9_write_90 : decode cX9_write 90 = .ok (.imul, 1) := by decide +kernel
theorem dX9_write_91 : decode cX9_write 91 = .ok (.iconst 2, 1) := by decide +kernel
theorem dX9_write_92 : decode cX9_write 92 = .ok (.iadd, 1) := by decide +kernel
theorem dX9_write_93 : decode cX9_write 93 = .ok (.iload 5, 2) := by decide +kernel
theorem dX9_write_95 : decode cX9_write 95 = .ok (.iastore, 1) := by decide +kernel
theorem dX9_write_96 : decode cX9_write 96 = .ok (.iconst 1, 1) := by decide +kernel
theorem dX9_write_97 : decode cX9_write 97 = .ok (.ireturn, 1) := by decide +kernel
theorem dX9_remove_0 : decode cX9_remove 0 = .ok (.aload_n 0, 1) := by decide +kernel
theorem dX9_remove_1 : decode cX9_remove 1 = .ok (.iload_n 1, 1) := by decide +kernel
theorem dX9_remove_2 : decode cX9_remove 2 = .ok (.invokevirtual 123, 3) := by decide +kernel
theorem dX9_remove_5 : decode cX9_remove 5 = .ok (.ifCond .eq 10, 3) := by decide +kernel
theorem dX9_remove_8 : decode cX9_remove 8 = .ok (.iload_n 2, 1) := by decide +kernel
theorem dX9_remove_9 : decode cX9_remove 9 = .ok (.invokestatic 126, 3) := by decide +kernel
theorem dX9_remove_12 : decode cX9_remove 12 = .ok (.ifCond .ne 5, 3) := by decide +kernel
theorem dX9_remove_15 : decode cX9_remove 15 = .ok (.iconst 0, 1) := by decide +kernel
theorem dX9_remove_16 : decode cX9_remove 16 = .ok (.ireturn, 1) := by decide +kernel
theorem dX9_remove_17 : decode cX9_remove 17 = .ok (.aload_n 0, 1) := by decide +kernel
theorem dX9_remove_18 : decode cX9_remove 18 = .ok (.getfield 56, 3) := by decide +kernel
theorem dX9_remove_21 : decode cX9_remove 21 = .ok (.bipush 32, 2) := by decide +kernel
theorem dX9_remove_23 : decode cX9_remove 23 = .ok (.iload_n 1, 1) := by decide +kernel
theorem dX9_remove_24 : decode cX9_remove 24 = .ok (.imul, 1) := by decide +kernel
theorem dX9_remove_25 : decode cX9_remove 25 = .ok (.iload_n 2, 1) := by decide +kernel
theorem dX9_remove_26 : decode cX9_remove 26 = .ok (.iadd, 1) := by decide +kernel
theorem dX9_remove_27 : decode cX9_remove 27 = .ok (.iconst 2, 1) := by decide +kernel
theorem dX9_remove_28 : decode cX9_remove 28 = .ok (.iastore, 1) := by decide +kernel
theorem dX9_remove_29 : decode cX9_remove 29 = .ok (.iconst 1, 1) := by decide +kernel
theorem dX9_remove_30 : decode cX9_remove 30 = .ok (.ireturn, 1) := by decide +kernel
theorem dX9_beaten_0 : decode cX9_beaten 0 = .ok (.iconst 0, 1) := by decide +kernel
theorem dX9_beaten_1 : decode cX9_beaten 1 = .ok (.istore_n 2, 1) := by decide +kernel
theorem dX9_beaten_2 : decode cX9_beaten 2 = .ok (.iconst 0, 1) := by decide +kernel
theorem dX9_beaten_3 : decode cX9_beaten 3 = .ok (.istore_n 3, 1) := by decide +kernel
theorem dX9_beaten_4 : decode cX9_beaten 4 = .ok (.iload_n 3, 1) := by decide +kernel
theorem dX9_beaten_5 : decode cX9_beaten 5 = .ok (.aload_n 0, 1) := by decide +kernel
theorem dX9_beaten_6 : decode cX9_beaten 6 = .ok (.getfield 106, 3) := by decide +kernel
theorem dX9_beaten_9 : decode cX9_beaten 9 = .ok (.if_icmp .ge 62, 3) := by decide +kernel
theorem dX9_beaten_12 : decode cX9_beaten 12 = .ok (.iload_n 2, 1) := by decide +kernel
theorem dX9_beaten_13 : decode cX9_beaten 13 = .ok (.ifCond .ne 46, 3) := by decide +kernel
theorem dX9_beaten_16 : decode cX9_beaten 16 = .ok (.aload_n 0, 1) := by decide +kernel
theorem dX9_beaten_17 : decode cX9_beaten 17 = .ok (.getfield 23, 3) := by decide +kernel
theorem dX9_beaten_20 : decode cX9_beaten 20 = .ok (.iload_n 3, 1) := by decide +kernel
theorem dX9_beaten_21 : decode cX9_beaten 21 = .ok (.iaload, 1) := by decide +kernel
theorem dX9_beaten_22 : decode cX9_beaten 22 = .ok (.ifCond .ne 41, 3) := by decide +kernel
theorem dX9_beaten_25 : decode cX9_beaten 25 = .ok (.aload_n 0, 1) := by decide +kernel
theorem dX9_beaten_26 : decode cX9_beaten 26 = .ok (.getfield 32, 3) := by decide +kernel
theorem dX9_beaten_29 : decode cX9_beaten 29 = .ok (.iload_n 3, 1) := by decide +kernel
theorem dX9_beaten_30 : decode cX9_beaten 30 = .ok (.iaload, 1) := by decide +kernel
theorem dX9_beaten_31 : decode cX9_beaten 31 = .ok (.aload_n 0, 1) := by decide +kernel
theorem dX9_beaten_32 : decode cX9_beaten 32 = .ok (.getfield 53, 3) := by decide +kernel
theorem dX9_beaten_35 : decode cX9_beaten 35 = .ok (.iload_n 1, 1) := by decide +kernel
theorem dX9_beaten_36 : decode cX9_beaten 36 = .ok (.iaload, 1) := by decide +kernel
theorem dX9_beaten_37 : decode cX9_beaten 37 = .ok (.if_icmp .le 26, 3) := by decide +kernel
theorem dX9_beaten_40 : decode cX9_beaten 40 = .ok (.aload_n 0, 1) := by decide +kernel
theorem dX9_beaten_41 : decode cX9_beaten 41 = .ok (.getfield 56, 3) := by decide +kernel
theorem dX9_beaten_44 : decode cX9_beaten 44 = .ok (.bipush 32, 2) := by decide +kernel
theorem dX9_beaten_46 : decode cX9_beaten 46 = .ok (.iload_n 1, 1) := by decide +kernel
theorem dX9_beaten_47 : decode cX9_beaten 47 = .ok (.imul, 1) := by decide +kernel
theorem dX9_beaten_48 : decode cX9_beaten 48 = .ok (.aload_n 0, 1) := by decide +kernel
theorem dX9_beaten_49 : decode cX9_beaten 49 = .ok (.getfield 29, 3) := by decide +kernel
theorem dX9_beaten_52 : decode cX9_beaten 52 = .ok (.iload_n 3, 1) := by decide +kernel
theorem dX9_beaten_53 : decode cX9_beaten 53 = .ok (.iaload, 1) := by decide +kernel
theorem dX9_beaten_54 : decode cX9_beaten 54 = .ok (.iadd, 1) := by decide +kernel
theorem dX9_beaten_55 : decode cX9_beaten 55 = .ok (.iaload, 1) := by decide +kernel
theorem dX9_beaten_56 : decode cX9_beaten 56 = .ok (.ifCond .le 7, 3) := by decide +kernel
theorem dX9_beaten_59 : decode cX9_beaten 59 = .ok (.iconst 1, 1) := by decide +kernel
theorem dX9_beaten_60 : decode cX9_beaten 60 = .ok (.goto 4, 3) := by decide +kernel
theorem dX9_beaten_63 : decode cX9_beaten 63 = .ok (.iconst 0, 1) := by decide +kernel
theorem dX9_beaten_64 : decode cX9_beaten 64 = .ok (.istore_n 2, 1) := by decide +kernel
theorem dX9_beaten_65 : decode cX9_beaten 65 = .ok (.iinc 3 1, 3) := by decide +kernel
theorem dX9_beaten_68 : decode cX9_beaten 68 = .ok (.goto (-64), 3) := by decide +kernel
theorem dX9_beaten_71 : decode cX9_beaten 71 = .ok (.iload_n 2, 1) := by decide +kernel
theorem dX9_beaten_72 : decode cX9_beaten 72 = .ok (.ireturn, 1) := by decide +kernel
theorem dX9_reads_0 : decode cX9_reads 0 = .ok (.iconst 1, 1) := by decide +kernel
theorem dX9_reads_1 : decode cX9_reads 1 = .ok (.istore_n 2, 1) := by decide +kernel
theorem dX9_reads_2 : decode cX9_reads 2 = .ok (.iconst 0, 1) := by decide +kernel
theorem dX9_reads_3 : decode cX9_reads 3 = .ok (.istore_n 3, 1) := by decide +kernel
theorem dX9_reads_4 : decode cX9_reads 4 = .ok (.iload_n 3, 1) := by decide +kernel
theorem dX9_reads_5 : decode cX9_reads 5 = .ok (.bipush 32, 2) := by decide +kernel
theorem dX9_reads_7 : decode cX9_reads 7 = .ok (.if_icmp .ge 33, 3) := by decide +kernel
theorem dX9_reads_10 : decode cX9_reads 10 = .ok (.iload_n 2, 1) := by decide +kernel
theorem dX9_reads_11 : decode cX9_reads 11 = .ok (.ifCond .eq 21, 3) := by decide +kernel
theorem dX9_reads_14 : decode cX9_reads 14 = .ok (.aload_n 0, 1) := by decide +kernel
theorem dX9_reads_15 : decode cX9_reads 15 = .ok (.getfield 56, 3) := by decide +kernel
theorem dX9_reads_18 : decode cX9_reads 18 = .ok (.bipush 32, 2) := by decide +kernel
theorem dX9_reads_20 : decode cX9_reads 20 = .ok (.iload_n 1, 1) := by decide +kernel
theorem dX9_reads_21 : decode cX9_reads 21 = .ok (.imul, 1) := by decide +kernel
theorem dX9_reads_22 : decode cX9_reads 22 = .ok (.iload_n 3, 1) := by decide +kernel
theorem dX9_reads_23 : decode cX9_reads 23 = .ok (.iadd, 1) := by decide +kernel
theorem dX9_reads_24 : decode cX9_reads 24 = .ok (.iaload, 1) := by decide +kernel
theorem dX9_reads_25 : decode cX9_reads 25 = .ok (.ifCond .ne 7, 3) := by decide +kernel
theorem dX9_reads_28 : decode cX9_reads 28 = .ok (.iconst 1, 1) := by decide +kernel
theorem dX9_reads_29 : decode cX9_reads 29 = .ok (.goto 4, 3) := by decide +kernel
theorem dX9_reads_32 : decode cX9_reads 32 = .ok (.iconst 0, 1) := by decide +kernel
theorem dX9_reads_33 : decode cX9_reads 33 = .ok (.istore_n 2, 1) := by decide +kernel
theorem dX9_reads_34 : decode cX9_reads 34 = .ok (.iinc 3 1, 3) := by decide +kernel
theorem dX9_reads_37 : decode cX9_reads 37 = .ok (.goto (-33), 3) := by decide +kernel
theorem dX9_reads_40 : decode cX9_reads 40 = .ok (.iload_n 2, 1) := by decide +kernel
theorem dX9_reads_41 : decode cX9_reads 41 = .ok (.ireturn, 1) := by decide +kernel
theorem dX9_entry_0 : decode cX9_entry 0 = .ok (.aload_n 0, 1) := by decide +kernel
theorem dX9_entry_1 : decode cX9_entry 1 = .ok (.getfield 23, 3) := by decide +kernel
theorem dX9_entry_4 : decode cX9_entry 4 = .ok (.aload_n 0, 1) := by decide +kernel
theorem dX9_entry_5 : decode cX9_entry 5 = .ok (.getfield 106, 3) := by decide +kernel
theorem dX9_entry_8 : decode cX9_entry 8 = .ok (.iload_n 1, 1) := by decide +kernel
theorem dX9_entry_9 : decode cX9_entry 9 = .ok (.iastore, 1) := by decide +kernel
theorem dX9_entry_10 : decode cX9_entry 10 = .ok (.aload_n 0, 1) := by decide +kernel
theorem dX9_entry_11 : decode cX9_entry 11 = .ok (.getfield 26, 3) := by decide +kernel
theorem dX9_entry_14 : decode cX9_entry 14 = .ok (.aload_n 0, 1) := by decide +kernel
theorem dX9_entry_15 : decode cX9_entry 15 = .ok (.getfield 106, 3) := by decide +kernel
theorem dX9_entry_18 : decode cX9_entry 18 = .ok (.iload_n 2, 1) := by decide +kernel
theorem dX9_entry_19 : decode cX9_entry 19 = .ok (.iastore, 1) := by decide +kernel
theorem dX9_entry_20 : decode cX9_entry 20 = .ok (.aload_n 0, 1) := by decide +kernel
theorem dX9_entry_21 : decode cX9_entry 21 = .ok (.getfield 29, 3) := by decide +kernel
theorem dX9_entry_24 : decode cX9_entry 24 = .ok (.aload_n 0, 1) := by decide +kernel
theorem dX9_entry_25 : decode cX9_entry 25 = .ok (.getfield 106, 3) := by decide +kernel
theorem dX9_entry_28 : decode cX9_entry 28 = .ok (.iload_n 3, 1) := by decide +kernel
theorem dX9_entry_29 : decode cX9_entry 29 = .ok (.iastore, 1) := by decide +kernel
theorem dX9_entry_30 : decode cX9_entry 30 = .ok (.aload_n 0, 1) := by decide +kernel
theorem dX9_entry_31 : decode cX9_entry 31 = .ok (.getfield 32, 3) := by decide +kernel
theorem dX9_entry_34 : decode cX9_entry 34 = .ok (.aload_n 0, 1) := by decide +kernel
theorem dX9_entry_35 : decode cX9_entry 35 = .ok (.getfield 106, 3) := by decide +kernel
theorem dX9_entry_38 : decode cX9_entry 38 = .ok (.aload_n 0, 1) := by decide +kernel
theorem dX9_entry_39 : decode cX9_entry 39 = .ok (.getfield 103, 3) := by decide +kernel
theorem dX9_entry_42 : decode cX9_entry 42 = .ok (.iconst 1, 1) := by decide +kernel
theorem dX9_entry_43 : decode cX9_entry 43 = .ok (.iadd, 1) := by decide +kernel
theorem dX9_entry_44 : decode cX9_entry 44 = .ok (.iastore, 1) := by decide +kernel
theorem dX9_entry_45 : decode cX9_entry 45 = .ok (.aload_n 0, 1) := by decide +kernel
theorem dX9_entry_46 : decode cX9_entry 46 = .ok (.getfield 35, 3) := by decide +kernel
theorem dX9_entry_49 : decode cX9_entry 49 = .ok (.aload_n 0, 1) := by decide +kernel
theorem dX9_entry_50 : decode cX9_entry 50 = .ok (.getfield 106, 3) := by decide +kernel
theorem dX9_entry_53 : decode cX9_entry 53 = .ok (.iload 4, 2) := by decide +kernel
theorem dX9_entry_55 : decode cX9_entry 55 = .ok (.bastore, 1) := by decide +kernel
theorem dX9_entry_56 : decode cX9_entry 56 = .ok (.aload_n 0, 1) := by decide +kernel
theorem dX9_entry_57 : decode cX9_entry 57 = .ok (.getfield 41, 3) := by decide +kernel
theorem dX9_entry_60 : decode cX9_entry 60 = .ok (.aload_n 0, 1) := by decide +kernel
theorem dX9_entry_61 : decode cX9_entry 61 = .ok (.getfield 106, 3) := by decide +kernel
theorem dX9_entry_64 : decode cX9_entry 64 = .ok (.iconst 0, 1) := by decide +kernel
theorem dX9_entry_65 : decode cX9_entry 65 = .ok (.iastore, 1) := by decide +kernel
theorem dX9_entry_66 : decode cX9_entry 66 = .ok (.iconst 0, 1) := by decide +kernel
theorem dX9_entry_67 : decode cX9_entry 67 = .ok (.istore 5, 2) := by decide +kernel
theorem dX9_entry_69 : decode cX9_entry 69 = .ok (.iload 5, 2) := by decide +kernel
theorem dX9_entry_71 : decode cX9_entry 71 = .ok (.iconst 3, 1) := by decide +kernel
theorem dX9_entry_72 : decode cX9_entry 72 = .ok (.if_icmp .ge 30, 3) := by decide +kernel
theorem dX9_entry_75 : decode cX9_entry 75 = .ok (.aload_n 0, 1) := by decide +kernel
theorem dX9_entry_76 : decode cX9_entry 76 = .ok (.getfield 38, 3) := by decide +kernel
theorem dX9_entry_79 : decode cX9_entry 79 = .ok (.iconst 3, 1) := by decide +kernel
theorem dX9_entry_80 : decode cX9_entry 80 = .ok (.aload_n 0, 1) := by decide +kernel
theorem dX9_entry_81 : decode cX9_entry 81 = .ok (.getfield 106, 3) := by decide +kernel
theorem dX9_entry_84 : decode cX9_entry 84 = .ok (.imul, 1) := by decide +kernel
theorem dX9_entry_85 : decode cX9_entry 85 = .ok (.iload 5, 2) := by decide +kernel
theorem dX9_entry_87 : decode cX9_entry 87 = .ok (.iadd, 1) := by decide +kernel
theorem dX9_entry_88 : decode cX9_entry 88 = .ok (.aload_n 0, 1) := by decide +kernel
theorem dX9_entry_89 : decode cX9_entry 89 = .ok (.getfield 62, 3) := by decide +kernel
theorem dX9_entry_92 : decode cX9_entry 92 = .ok (.iload 5, 2) := by decide +kernel
theorem dX9_entry_94 : decode cX9_entry 94 = .ok (.iaload, 1) := by decide +kernel
theorem dX9_entry_95 : decode cX9_entry 95 = .ok (.iastore, 1) := by decide +kernel
theorem dX9_entry_96 : decode cX9_entry 96 = .ok (.iinc 5 1, 3) := by decide +kernel
theorem dX9_entry_99 : decode cX9_entry 99 = .ok (.goto (-30), 3) := by decide +kernel
theorem dX9_entry_102 : decode cX9_entry 102 = .ok (.aload_n 0, 1) := by decide +kernel
theorem dX9_entry_103 : decode cX9_entry 103 = .ok (.dup, 1) := by decide +kernel
theorem dX9_entry_104 : decode cX9_entry 104 = .ok (.getfield 106, 3) := by decide +kernel
theorem dX9_entry_107 : decode cX9_entry 107 = .ok (.iconst 1, 1) := by decide +kernel
theorem dX9_entry_108 : decode cX9_entry 108 = .ok (.iadd, 1) := by decide +kernel
theorem dX9_entry_109 : decode cX9_entry 109 = .ok (.putfield 106, 3) := by decide +kernel
theorem dX9_entry_112 : decode cX9_entry 112 = .ok (.return_, 1) := by decide +kernel
theorem dX9_batch_0 : decode cX9_batch 0 = .ok (.iconst 0, 1) := by decide +kernel
theorem dX9_batch_1 : decode cX9_batch 1 = .ok (.istore_n 3, 1) := by decide +kernel
theorem dX9_batch_2 : decode cX9_batch 2 = .ok (.iconst 0, 1) := by decide +kernel
theorem dX9_batch_3 : decode cX9_batch 3 = .ok (.istore 4, 2) := by decide +kernel
theorem dX9_batch_5 : decode cX9_batch 5 = .ok (.iload 4, 2) := by decide +kernel
theorem dX9_batch_7 : decode cX9_batch 7 = .ok (.bipush 32, 2) := by decide +kernel
theorem dX9_batch_9 : decode cX9_batch 9 = .ok (.if_icmp .ge 231, 3) := by decide +kernel
theorem dX9_batch_12 : decode cX9_batch 12 = .ok (.aload_n 0, 1) := by decide +kernel
theorem dX9_batch_13 : decode cX9_batch 13 = .ok (.getfield 56, 3) := by decide +kernel
theorem dX9_batch_16 : decode cX9_batch 16 = .ok (.bipush 32, 2) := by decide +kernel
theorem dX9_batch_18 : decode cX9_batch 18 = .ok (.iload_n 1, 1) := by decide +kernel
theorem dX9_batch_19 : decode cX9_batch 19 = .ok (.imul, 1) := by decide +kernel
theorem dX9_batch_20 : decode cX9_batch 20 = .ok (.iload 4, 2) := by decide +kernel
theorem dX9_batch_22 : decode cX9_batch 22 = .ok (.iadd, 1) := by decide +kernel
theorem dX9_batch_23 : decode cX9_batch 23 = .ok (.iaload, 1) := by decide +kernel
theorem dX9_batch_24 : decode cX9_batch 24 = .ok (.istore 5, 2) := by decide +kernel
theorem dX9_batch_26 : decode cX9_batch 26 = .ok (.iload 5, 2) := by decide +kernel
theorem dX9_batch_28 : decode cX9_batch 28 = .ok (.ifCond .le 206, 3) := by decide +kernel
theorem dX9_batch_31 : decode cX9_batch 31 = .ok (.iinc 3 1, 3) := by decide +kernel
theorem dX9_batch_34 : decode cX9_batch 34 = .ok (.iconst 0, 1) := by decide +kernel
theorem dX9_batch_35 : decode cX9_batch 35 = .ok (.istore 6, 2) := by decide +kernel
theorem dX9_batch_37 : decode cX9_batch 37 = .ok (.iload 6, 2) := by decide +kernel
theorem dX9_batch_39 : decode cX9_batch 39 = .ok (.aload_n 0, 1) := by decide +kernel
theorem dX9_batch_40 : decode cX9_batch 40 = .ok (.getfield 100, 3) := by decide +kernel
theorem dX9_batch_43 : decode cX9_batch 43 = .ok (.if_icmp .ge 168, 3) := by decide +kernel
theorem dX9_batch_46 : decode cX9_batch 46 = .ok (.aload_n 0, 1) := by decide +kernel
theorem dX9_batch_47 : decode cX9_batch 47 = .ok (.iload 4, 2) := by decide +kernel
theorem dX9_batch_49 : decode cX9_batch 49 = .ok (.aload_n 0, 1) := by decide +kernel
theorem dX9_batch_50 : decode cX9_batch 50 = .ok (.getfield 103, 3) := by decide +kernel
theorem dX9_batch_53 : decode cX9_batch 53 = .ok (.invokevirtual 113, 3) := by decide +kernel
theorem dX9_batch_56 : decode cX9_batch 56 = .ok (.istore 7, 2) := by decide +kernel
theorem dX9_batch_58 : decode cX9_batch 58 = .ok (.aload_n 0, 1) := by decide +kernel
theorem dX9_batch_59 : decode cX9_batch 59 = .ok (.bipush 8, 2) := by decide +kernel
theorem dX9_batch_61 : decode cX9_batch 61 = .ok (.iload 6, 2) := by decide +kernel
theorem dX9_batch_63 : decode cX9_batch 63 = .ok (.iadd, 1) := by decide +kernel
theorem dX9_batch_64 : decode cX9_batch 64 = .ok (.invokevirtual 132, 3) := by decide +kernel
theorem dX9_batch_67 : decode cX9_batch 67 = .ok (.istore 8, 2) := by decide +kernel
theorem dX9_batch_69 : decode cX9_batch 69 = .ok (.aload_n 0, 1) := by decide +kernel
theorem dX9_batch_70 : decode cX9_batch 70 = .ok (.iload_n 1, 1) := by decide +kernel
theorem dX9_batch_71 : decode cX9_batch 71 = .ok (.iload 4, 2) := by decide +kernel
theorem dX9_batch_73 : decode cX9_batch 73 = .ok (.invokevirtual 129, 3) := by decide +kernel
theorem dX9_batch_76 : decode cX9_batch 76 = .ok (.istore 9, 2) := by decide +kernel
theorem dX9_batch_78 : decode cX9_batch 78 = .ok (.aload_n 0, 1) := by decide +kernel
theorem dX9_batch_79 : decode cX9_batch 79 = .ok (.bipush 8, 2) := by decide +kernel
theorem dX9_batch_81 : decode cX9_batch 81 = .ok (.iload 6, 2) := by decide +kernel
theorem dX9_batch_83 : decode cX9_batch 83 = .ok (.iadd, 1) := by decide +kernel
theorem dX9_batch_84 : decode cX9_batch 84 = .ok (.invokevirtual 132, 3) := by decide +kernel
theorem dX9_batch_87 : decode cX9_batch 87 = .ok (.istore 10, 2) := by decide +kernel
theorem dX9_batch_89 : decode cX9_batch 89 = .ok (.iload 7, 2) := by decide +kernel
theorem dX9_batch_91 : decode cX9_batch 91 = .ok (.ifCond .eq 19, 3) := by decide +kernel
theorem dX9_batch_94 : decode cX9_batch 94 = .ok (.iload 9, 2) := by decide +kernel
theorem dX9_batch_96 : decode cX9_batch 96 = .ok (.ifCond .eq 10, 3) := by decide +kernel
theorem dX9_batch_99 : decode cX9_batch 99 = .ok (.iload 10, 2) := by decide +kernel
theorem dX9_batch_101 : decode cX9_batch 101 = .ok (.iload 8, 2) := by decide +kernel
theorem dX9_batch_103 : decode cX9_batch 103 = .ok (.if_icmp .eq 7, 3) := by decide +kernel
theorem dX9_batch_106 : decode cX9_batch 106 = .ok (.iconst 1, 1) := by decide +kernel
theorem dX9_batch_107 : decode cX9_batch 107 = .ok (.goto 4, 3) := by decide +kernel
theorem dX9_batch_110 : decode cX9_batch 110 = .ok (.iconst 0, 1) := by decide +kernel
theorem dX9_batch_111 : decode cX9_batch 111 = .ok (.istore 11, 2) := by decide +kernel
theorem dX9_batch_113 : decode cX9_batch 113 = .ok (.iload 9, 2) := by decide +kernel
theorem dX9_batch_115 : decode cX9_batch 115 = .ok (.ifCond .eq 19, 3) := by decide +kernel
theorem dX9_batch_118 : decode cX9_batch 118 = .ok (.iload 7, 2) := by decide +kernel
theorem dX9_batch_120 : decode cX9_batch 120 = .ok (.ifCond .eq 10, 3) := by decide +kernel
theorem dX9_batch_123 : decode cX9_batch 123 = .ok (.iload 10, 2) := by decide +kernel
theorem dX9_batch_125 : decode cX9_batch 125 = .ok (.iload 8, 2) := by decide +kernel
theorem dX9_batch_127 : decode cX9_batch 127 = .ok (.if_icmp .eq 7, 3) := by decide +kernel
theorem dX9_batch_130 : decode cX9_batch 130 = .ok (.iconst 1, 1) := by decide +kernel
theorem dX9_batch_131 : decode cX9_batch 131 = .ok (.goto 4, 3) := by decide +kernel
theorem dX9_batch_134 : decode cX9_batch 134 = .ok (.iconst 0, 1) := by decide +kernel
theorem dX9_batch_135 : decode cX9_batch 135 = .ok (.istore 12, 2) := by decide +kernel
theorem dX9_batch_137 : decode cX9_batch 137 = .ok (.iload_n 3, 1) := by decide +kernel
theorem dX9_batch_138 : decode cX9_batch 138 = .ok (.iload 11, 2) := by decide +kernel
theorem dX9_batch_140 : decode cX9_batch 140 = .ok (.ifCond .eq 7, 3) := by decide +kernel
theorem dX9_batch_143 : decode cX9_batch 143 = .ok (.iconst 1, 1) := by decide +kernel
theorem dX9_batch_144 : decode cX9_batch 144 = .ok (.goto 4, 3) := by decide +kernel
theorem dX9_batch_147 : decode cX9_batch 147 = .ok (.iconst 0, 1) := by decide +kernel
theorem dX9_batch_148 : decode cX9_batch 148 = .ok (.iload 12, 2) := by decide +kernel
theorem dX9_batch_150 : decode cX9_batch 150 = .ok (.ifCond .eq 7, 3) := by decide +kernel
theorem dX9_batch_153 : decode cX9_batch 153 = .ok (.iconst 1, 1) := by decide +kernel
theorem dX9_batch_154 : decode cX9_batch 154 = .ok (.goto 4, 3) := by decide +kernel
theorem dX9_batch_157 : decode cX9_batch 157 = .ok (.iconst 0, 1) := by decide +kernel
theorem dX9_batch_158 : decode cX9_batch 158 = .ok (.iadd, 1) := by decide +kernel
theorem dX9_batch_159 : decode cX9_batch 159 = .ok (.iadd, 1) := by decide +kernel
theorem dX9_batch_160 : decode cX9_batch 160 = .ok (.istore_n 3, 1) := by decide +kernel
theorem dX9_batch_161 : decode cX9_batch 161 = .ok (.iload_n 2, 1) := by decide +kernel
theorem dX9_batch_162 : decode cX9_batch 162 = .ok (.ifCond .eq 21, 3) := by decide +kernel
theorem dX9_batch_165 : decode cX9_batch 165 = .ok (.iload 11, 2) := by decide +kernel
theorem dX9_batch_167 : decode cX9_batch 167 = .ok (.ifCond .eq 16, 3) := by decide +kernel
theorem dX9_batch_170 : decode cX9_batch 170 = .ok (.aload_n 0, 1) := by decide +kernel
theorem dX9_batch_171 : decode cX9_batch 171 = .ok (.iload 6, 2) := by decide +kernel
theorem dX9_batch_173 : decode cX9_batch 173 = .ok (.iconst 1, 1) := by decide +kernel
theorem dX9_batch_174 : decode cX9_batch 174 = .ok (.iadd, 1) := by decide +kernel
theorem dX9_batch_175 : decode cX9_batch 175 = .ok (.iload 8, 2) := by decide +kernel
theorem dX9_batch_177 : decode cX9_batch 177 = .ok (.iload 4, 2) := by decide +kernel
theorem dX9_batch_179 : decode cX9_batch 179 = .ok (.iconst 0, 1) := by decide +kernel
theorem dX9_batch_180 : decode cX9_batch 180 = .ok (.invokevirtual 134, 3) := by decide +kernel
theorem dX9_batch_183 : decode cX9_batch 183 = .ok (.iload_n 2, 1) := by decide +kernel
theorem dX9_batch_184 : decode cX9_batch 184 = .ok (.ifCond .eq 21, 3) := by decide +kernel
theorem dX9_batch_187 : decode cX9_batch 187 = .ok (.iload 12, 2) := by decide +kernel
theorem dX9_batch_189 : decode cX9_batch 189 = .ok (.ifCond .eq 16, 3) := by decide +kernel
theorem dX9_batch_192 : decode cX9_batch 192 = .ok (.aload_n 0, 1) := by decide +kernel
theorem dX9_batch_193 : decode cX9_batch 193 = .ok (.iload 6, 2) := by decide +kernel
theorem dX9_batch_195 : decode cX9_batch 195 = .ok (.iconst 1, 1) := by decide +kernel
theorem dX9_batch_196 : decode cX9_batch 196 = .ok (.iadd, 1) := by decide +kernel
theorem dX9_batch_197 : decode cX9_batch 197 = .ok (.iload 10, 2) := by decide +kernel
theorem dX9_batch_199 : decode cX9_batch 199 = .ok (.iload 4, 2) := by decide +kernel
theorem dX9_batch_201 : decode cX9_batch 201 = .ok (.iconst 1, 1) := by decide +kernel
theorem dX9_batch_202 : decode cX9_batch 202 = .ok (.invokevirtual 134, 3) := by decide +kernel
theorem dX9_batch_205 : decode cX9_batch 205 = .ok (.iinc 6 1, 3) := by decide +kernel
theorem dX9_batch_208 : decode cX9_batch 208 = .ok (.goto (-171), 3) := by decide +kernel
theorem dX9_batch_211 : decode cX9_batch 211 = .ok (.aload_n 0, 1) := by decide +kernel
theorem dX9_batch_212 : decode cX9_batch 212 = .ok (.iload_n 1, 1) := by decide +kernel
theorem dX9_batch_213 : decode cX9_batch 213 = .ok (.iload 4, 2) := by decide +kernel
theorem dX9_batch_215 : decode cX9_batch 215 = .ok (.invokevirtual 129, 3) := by decide +kernel
theorem dX9_batch_218 : decode cX9_batch 218 = .ok (.istore 6, 2) := by decide +kernel
theorem dX9_batch_220 : decode cX9_batch 220 = .ok (.iload_n 2, 1) := by decide +kernel
theorem dX9_batch_221 : decode cX9_batch 221 = .ok (.ifCond .eq 13, 3) := by decide +kernel
theorem dX9_batch_224 : decode cX9_batch 224 = .ok (.aload_n 0, 1) := by decide +kernel
theorem dX9_batch_225 : decode cX9_batch 225 = .ok (.iconst 0, 1) := by decide +kernel
theorem dX9_batch_226 : decode cX9_batch 226 = .ok (.iconst 0, 1) := by decide +kernel
theorem dX9_batch_227 : decode cX9_batch 227 = .ok (.iload 4, 2) := by decide +kernel
theorem dX9_batch_229 : decode cX9_batch 229 = .ok (.iload 6, 2) := by decide +kernel
theorem dX9_batch_231 : decode cX9_batch 231 = .ok (.invokevirtual 134, 3) := by decide +kernel
theorem dX9_batch_234 : decode cX9_batch 234 = .ok (.iinc 4 1, 3) := by decide +kernel
theorem dX9_batch_237 : decode cX9_batch 237 = .ok (.goto (-232), 3) := by decide +kernel
theorem dX9_batch_240 : decode cX9_batch 240 = .ok (.iload_n 3, 1) := by decide +kernel
theorem dX9_batch_241 : decode cX9_batch 241 = .ok (.ireturn, 1) := by decide +kernel
theorem dX9_comes_0 : decode cX9_comes 0 = .ok (.aload_n 0, 1) := by decide +kernel
theorem dX9_comes_1 : decode cX9_comes 1 = .ok (.iload_n 1, 1) := by decide +kernel
theorem dX9_comes_2 : decode cX9_comes 2 = .ok (.iconst 1, 1) := by decide +kernel
theorem dX9_comes_3 : decode cX9_comes 3 = .ok (.invokevirtual 138, 3) := by decide +kernel
theorem dX9_comes_6 : decode cX9_comes 6 = .ok (.pop, 1) := by decide +kernel
theorem dX9_comes_7 : decode cX9_comes 7 = .ok (.aload_n 0, 1) := by decide +kernel
theorem dX9_comes_8 : decode cX9_comes 8 = .ok (.dup, 1) := by decide +kernel
theorem dX9_comes_9 : decode cX9_comes 9 = .ok (.getfield 103, 3) := by decide +kernel
theorem dX9_comes_12 : decode cX9_comes 12 = .ok (.iconst 1, 1) := by decide +kernel
theorem dX9_comes_13 : decode cX9_comes 13 = .ok (.iadd, 1) := by decide +kernel
theorem dX9_comes_14 : decode cX9_comes 14 = .ok (.putfield 103, 3) := by decide +kernel
theorem dX9_comes_17 : decode cX9_comes 17 = .ok (.aload_n 0, 1) := by decide +kernel
theorem dX9_comes_18 : decode cX9_comes 18 = .ok (.getfield 50, 3) := by decide +kernel
theorem dX9_comes_21 : decode cX9_comes 21 = .ok (.iload_n 1, 1) := by decide +kernel
theorem dX9_comes_22 : decode cX9_comes 22 = .ok (.iconst 2, 1) := by decide +kernel
theorem dX9_comes_23 : decode cX9_comes 23 = .ok (.iastore, 1) := by decide +kernel
theorem dX9_comes_24 : decode cX9_comes 24 = .ok (.return_, 1) := by decide +kernel
theorem dX9_commit_0 : decode cX9_commit 0 = .ok (.aload_n 0, 1) := by decide +kernel
theorem dX9_commit_1 : decode cX9_commit 1 = .ok (.iload_n 1, 1) := by decide +kernel
theorem dX9_commit_2 : decode cX9_commit 2 = .ok (.invokevirtual 123, 3) := by decide +kernel
theorem dX9_commit_5 : decode cX9_commit 5 = .ok (.ifCond .ne 5, 3) := by decide +kernel
theorem dX9_commit_8 : decode cX9_commit 8 = .ok (.iconst (-1), 1) := by decide +kernel
theorem dX9_commit_9 : decode cX9_commit 9 = .ok (.ireturn, 1) := by decide +kernel
theorem dX9_commit_10 : decode cX9_commit 10 = .ok (.aload_n 0, 1) := by decide +kernel
theorem dX9_commit_11 : decode cX9_commit 11 = .ok (.iload_n 1, 1) := by decide +kernel
theorem dX9_commit_12 : decode cX9_commit 12 = .ok (.invokevirtual 142, 3) := by decide +kernel
theorem dX9_commit_15 : decode cX9_commit 15 = .ok (.ifCond .eq 13, 3) := by decide +kernel
theorem dX9_commit_18 : decode cX9_commit 18 = .ok (.aload_n 0, 1) := by decide +kernel
theorem dX9_commit_19 : decode cX9_commit 19 = .ok (.getfield 50, 3) := by decide +kernel
theorem dX9_commit_22 : decode cX9_commit 22 = .ok (.iload_n 1, 1) := by decide +kernel
theorem dX9_commit_23 : decode cX9_commit 23 = .ok (.iconst 3, 1) := by decide +kernel
theorem dX9_commit_24 : decode cX9_commit 24 = .ok (.iastore, 1) := by decide +kernel
theorem dX9_commit_25 : decode cX9_commit 25 = .ok (.bipush (-2), 2) := by decide +kernel
theorem dX9_commit_27 : decode cX9_commit 27 = .ok (.ireturn, 1) := by decide +kernel
theorem dX9_commit_28 : decode cX9_commit 28 = .ok (.aload_n 0, 1) := by decide +kernel
theorem dX9_commit_29 : decode cX9_commit 29 = .ok (.iload_n 1, 1) := by decide +kernel
theorem dX9_commit_30 : decode cX9_commit 30 = .ok (.invokevirtual 145, 3) := by decide +kernel
theorem dX9_commit_33 : decode cX9_commit 33 = .ok (.ifCond .eq 17, 3) := by decide +kernel
theorem dX9_commit_36 : decode cX9_commit 36 = .ok (.aload_n 0, 1) := by decide +kernel
theorem dX9_commit_37 : decode cX9_commit 37 = .ok (.getfield 50, 3) := by decide +kernel
theorem dX9_commit_40 : decode cX9_commit 40 = .ok (.iload_n 1, 1) := by decide +kernel
theorem dX9_commit_41 : decode cX9_commit 41 = .ok (.iconst 2, 1) := by decide +kernel
theorem dX9_commit_42 : decode cX9_commit 42 = .ok (.iastore, 1) := by decide +kernel
theorem dX9_commit_43 : decode cX9_commit 43 = .ok (.aload_n 0, 1) := by decide +kernel
theorem dX9_commit_44 : decode cX9_commit 44 = .ok (.getfield 53, 3) := by decide +kernel
theorem dX9_commit_47 : decode cX9_commit 47 = .ok (.iload_n 1, 1) := by decide +kernel
theorem dX9_commit_48 : decode cX9_commit 48 = .ok (.iaload, 1) := by decide +kernel
theorem dX9_commit_49 : decode cX9_commit 49 = .ok (.ireturn, 1) := by decide +kernel
theorem dX9_commit_50 : decode cX9_commit 50 = .ok (.aload_n 0, 1) := by decide +kernel
theorem dX9_commit_51 : decode cX9_commit 51 = .ok (.iload_n 1, 1) := by decide +kernel
theorem dX9_commit_52 : decode cX9_commit 52 = .ok (.iconst 0, 1) := by decide +kernel
theorem dX9_commit_53 : decode cX9_commit 53 = .ok (.invokevirtual 138, 3) := by decide +kernel
theorem dX9_commit_56 : decode cX9_commit 56 = .ok (.istore_n 2, 1) := by decide +kernel
theorem dX9_commit_57 : decode cX9_commit 57 = .ok (.aload_n 0, 1) := by decide +kernel
theorem dX9_commit_58 : decode cX9_commit 58 = .ok (.getfield 106, 3) := by decide +kernel
theorem dX9_commit_61 : decode cX9_commit 61 = .ok (.iload_n 2, 1) := by decide +kernel
theorem dX9_commit_62 : decode cX9_commit 62 = .ok (.iadd, 1) := by decide +kernel
theorem dX9_commit_63 : decode cX9_commit 63 = .ok (.sipush 500, 3) := by decide +kernel
theorem dX9_commit_66 : decode cX9_commit 66 = .ok (.if_icmp .le 6, 3) := by decide +kernel
theorem dX9_commit_69 : decode cX9_commit 69 = .ok (.bipush (-3), 2) := by decide +kernel
theorem dX9_commit_71 : decode cX9_commit 71 = .ok (.ireturn, 1) := by decide +kernel
theorem dX9_commit_72 : decode cX9_commit 72 = .ok (.aload_n 0, 1) := by decide +kernel
theorem dX9_commit_73 : decode cX9_commit 73 = .ok (.iload_n 1, 1) := by decide +kernel
theorem dX9_commit_74 : decode cX9_commit 74 = .ok (.invokevirtual 148, 3) := by decide +kernel
theorem dX9_commit_77 : decode cX9_commit 77 = .ok (.aload_n 0, 1) := by decide +kernel
theorem dX9_commit_78 : decode cX9_commit 78 = .ok (.iconst 0, 1) := by decide +kernel
theorem dX9_commit_79 : decode cX9_commit 79 = .ok (.invokevirtual 152, 3) := by decide +kernel
theorem dX9_commit_82 : decode cX9_commit 82 = .ok (.bipush 20, 2) := by decide +kernel
theorem dX9_commit_84 : decode cX9_commit 84 = .ok (.if_icmp .lt 12, 3) := by decide +kernel
theorem dX9_commit_87 : decode cX9_commit 87 = .ok (.aload_n 0, 1) := by decide +kernel
theorem dX9_commit_88 : decode cX9_commit 88 = .ok (.invokevirtual 155, 3) := by decide +kernel
theorem dX9_commit_91 : decode cX9_commit 91 = .ok (.pop, 1) := by decide +kernel
theorem dX9_commit_92 : decode cX9_commit 92 = .ok (.aload_n 0, 1) := by decide +kernel
theorem dX9_commit_93 : decode cX9_commit 93 = .ok (.invokevirtual 158, 3) := by decide +kernel
theorem dX9_commit_96 : decode cX9_commit 96 = .ok (.aload_n 0, 1) := by decide +kernel
theorem dX9_commit_97 : decode cX9_commit 97 = .ok (.getfield 103, 3) := by decide +kernel
theorem dX9_commit_100 : decode cX9_commit 100 = .ok (.ireturn, 1) := by decide +kernel
theorem dX9_tear_0 : decode cX9_tear 0 = .ok (.aload_n 0, 1) := by decide +kernel
theorem dX9_tear_1 : decode cX9_tear 1 = .ok (.iload_n 1, 1) := by decide +kernel
theorem dX9_tear_2 : decode cX9_tear 2 = .ok (.invokevirtual 123, 3) := by decide +kernel
theorem dX9_tear_5 : decode cX9_tear 5 = .ok (.ifCond .eq 23, 3) := by decide +kernel
theorem dX9_tear_8 : decode cX9_tear 8 = .ok (.aload_n 0, 1) := by decide +kernel
theorem dX9_tear_9 : decode cX9_tear 9 = .ok (.iload_n 1, 1) := by decide +kernel
theorem dX9_tear_10 : decode cX9_tear 10 = .ok (.invokevirtual 145, 3) := by decide +kernel
theorem dX9_tear_13 : decode cX9_tear 13 = .ok (.ifCond .ne 15, 3) := by decide +kernel
theorem dX9_tear_16 : decode cX9_tear 16 = .ok (.aload_n 0, 1) := by decide +kernel
theorem dX9_tear_17 : decode cX9_tear 17 = .ok (.iload_n 1, 1) := by decide +kernel
theorem dX9_tear_18 : decode cX9_tear 18 = .ok (.invokevirtual 142, 3) := by decide +kernel
theorem dX9_tear_21 : decode cX9_tear 21 = .ok (.ifCond .ne 7, 3) := by decide +kernel
theorem dX9_tear_24 : decode cX9_tear 24 = .ok (.iload_n 2, 1) := by decide +kernel
theorem dX9_tear_25 : decode cX9_tear 25 = .ok (.ifCond .ge 5, 3) := by decide +kernel
theorem dX9_tear_28 : decode cX9_tear 28 = .ok (.iconst (-1), 1) := by decide +kernel
theorem dX9_tear_29 : decode cX9_tear 29 = .ok (.ireturn, 1) := by decide +kernel
theorem dX9_tear_30 : decode cX9_tear 30 = .ok (.aload_n 0, 1) := by decide +kernel
theorem dX9_tear_31 : decode cX9_tear 31 = .ok (.iload_n 1, 1) := by decide +kernel
theorem dX9_tear_32 : decode cX9_tear 32 = .ok (.iconst 0, 1) := by decide +kernel
theorem dX9_tear_33 : decode cX9_tear 33 = .ok (.invokevirtual 138, 3) := by decide +kernel
theorem dX9_tear_36 : decode cX9_tear 36 = .ok (.istore_n 3, 1) := by decide +kernel
theorem dX9_tear_37 : decode cX9_tear 37 = .ok (.aload_n 0, 1) := by decide +kernel
theorem dX9_tear_38 : decode cX9_tear 38 = .ok (.getfield 106, 3) := by decide +kernel
theorem dX9_tear_41 : decode cX9_tear 41 = .ok (.iload_n 3, 1) := by decide +kernel
theorem dX9_tear_42 : decode cX9_tear 42 = .ok (.iadd, 1) := by decide +kernel
theorem dX9_tear_43 : decode cX9_tear 43 = .ok (.sipush 500, 3) := by decide +kernel
theorem dX9_tear_46 : decode cX9_tear 46 = .ok (.if_icmp .le 5, 3) := by decide +kernel
theorem dX9_tear_49 : decode cX9_tear 49 = .ok (.iconst (-1), 1) := by decide +kernel
theorem dX9_tear_50 : decode cX9_tear 50 = .ok (.ireturn, 1) := by decide +kernel
theorem dX9_tear_51 : decode cX9_tear 51 = .ok (.iload_n 2, 1) := by decide +kernel
theorem dX9_tear_52 : decode cX9_tear 52 = .ok (.iload_n 3, 1) := by decide +kernel
theorem dX9_tear_53 : decode cX9_tear 53 = .ok (.if_icmp .le 7, 3) := by decide +kernel
theorem dX9_tear_56 : decode cX9_tear 56 = .ok (.iconst 1, 1) := by decide +kernel
theorem dX9_tear_57 : decode cX9_tear 57 = .ok (.goto 4, 3) := by decide +kernel
theorem dX9_tear_60 : decode cX9_tear 60 = .ok (.iconst 0, 1) := by decide +kernel
theorem dX9_tear_61 : decode cX9_tear 61 = .ok (.istore 4, 2) := by decide +kernel
theorem dX9_tear_63 : decode cX9_tear 63 = .ok (.iload 4, 2) := by decide +kernel
theorem dX9_tear_65 : decode cX9_tear 65 = .ok (.ifCond .eq 8, 3) := by decide +kernel
theorem dX9_tear_68 : decode cX9_tear 68 = .ok (.aload_n 0, 1) := by decide +kernel
theorem dX9_tear_69 : decode cX9_tear 69 = .ok (.iload_n 1, 1) := by decide +kernel
theorem dX9_tear_70 : decode cX9_tear 70 = .ok (.invokevirtual 148, 3) := by decide +kernel
theorem dX9_tear_73 : decode cX9_tear 73 = .ok (.aload_n 0, 1) := by decide +kernel
theorem dX9_tear_74 : decode cX9_tear 74 = .ok (.invokevirtual 161, 3) := by decide +kernel
theorem dX9_tear_77 : decode cX9_tear 77 = .ok (.istore 5, 2) := by decide +kernel
theorem dX9_tear_79 : decode cX9_tear 79 = .ok (.iload 4, 2) := by decide +kernel
theorem dX9_tear_81 : decode cX9_tear 81 = .ok (.ifCond .eq 12, 3) := by decide +kernel
theorem dX9_tear_84 : decode cX9_tear 84 = .ok (.iload 5, 2) := by decide +kernel
theorem dX9_tear_86 : decode cX9_tear 86 = .ok (.ifCond .lt 7, 3) := by decide +kernel
theorem dX9_tear_89 : decode cX9_tear 89 = .ok (.iconst 1, 1) := by decide +kernel
theorem dX9_tear_90 : decode cX9_tear 90 = .ok (.goto 4, 3) := by decide +kernel
theorem dX9_tear_93 : decode cX9_tear 93 = .ok (.iconst 0, 1) := by decide +kernel
theorem dX9_tear_94 : decode cX9_tear 94 = .ok (.ireturn, 1) := by decide +kernel
theorem dX9_abort_0 : decode cX9_abort 0 = .ok (.aload_n 0, 1) := by decide +kernel
theorem dX9_abort_1 : decode cX9_abort 1 = .ok (.iload_n 1, 1) := by decide +kernel
theorem dX9_abort_2 : decode cX9_abort 2 = .ok (.invokevirtual 123, 3) := by decide +kernel
theorem dX9_abort_5 : decode cX9_abort 5 = .ok (.ifCond .ne 5, 3) := by decide +kernel
theorem dX9_abort_8 : decode cX9_abort 8 = .ok (.iconst 0, 1) := by decide +kernel
theorem dX9_abort_9 : decode cX9_abort 9 = .ok (.ireturn, 1) := by decide +kernel
theorem dX9_abort_10 : decode cX9_abort 10 = .ok (.aload_n 0, 1) := by decide +kernel
theorem dX9_abort_11 : decode cX9_abort 11 = .ok (.getfield 50, 3) := by decide +kernel
theorem dX9_abort_14 : decode cX9_abort 14 = .ok (.iload_n 1, 1) := by decide +kernel
theorem dX9_abort_15 : decode cX9_abort 15 = .ok (.iconst 4, 1) := by decide +kernel
theorem dX9_abort_16 : decode cX9_abort 16 = .ok (.iastore, 1) := by decide +kernel
theorem dX9_abort_17 : decode cX9_abort 17 = .ok (.iconst 1, 1) := by decide +kernel
theorem dX9_abort_18 : decode cX9_abort 18 = .ok (.ireturn, 1) := by decide +kernel
theorem dX9_crash_0 : decode cX9_crash 0 = .ok (.iconst 0, 1) := by decide +kernel
theorem dX9_crash_1 : decode cX9_crash 1 = .ok (.istore_n 1, 1) := by decide +kernel
theorem dX9_crash_2 : decode cX9_crash 2 = .ok (.iconst 0, 1) := by decide +kernel
theorem dX9_crash_3 : decode cX9_crash 3 = .ok (.istore_n 2, 1) := by decide +kernel
theorem dX9_crash_4 : decode cX9_crash 4 = .ok (.iload_n 2, 1) := by decide +kernel
theorem dX9_crash_5 : decode cX9_crash 5 = .ok (.aload_n 0, 1) := by decide +kernel
theorem dX9_crash_6 : decode cX9_crash 6 = .ok (.getfield 116, 3) := by decide +kernel
theorem dX9_crash_9 : decode cX9_crash 9 = .ok (.if_icmp .ge 53, 3) := by decide +kernel
theorem dX9_crash_12 : decode cX9_crash 12 = .ok (.iload_n 1, 1) := by decide +kernel
theorem dX9_crash_13 : decode cX9_crash 13 = .ok (.aload_n 0, 1) := by decide +kernel
theorem dX9_crash_14 : decode cX9_crash 14 = .ok (.getfield 50, 3) := by decide +kernel
theorem dX9_crash_17 : decode cX9_crash 17 = .ok (.iload_n 2, 1) := by decide +kernel
theorem dX9_crash_18 : decode cX9_crash 18 = .ok (.iaload, 1) := by decide +kernel
theorem dX9_crash_19 : decode cX9_crash 19 = .ok (.iconst 1, 1) := by decide +kernel
theorem dX9_crash_20 : decode cX9_crash 20 = .ok (.if_icmp .ne 7, 3) := by decide +kernel
theorem dX9_crash_23 : decode cX9_crash 23 = .ok (.iconst 1, 1) := by decide +kernel
theorem dX9_crash_24 : decode cX9_crash 24 = .ok (.goto 4, 3) := by decide +kernel
theorem dX9_crash_27 : decode cX9_crash 27 = .ok (.iconst 0, 1) := by decide +kernel
theorem dX9_crash_28 : decode cX9_crash 28 = .ok (.iadd, 1) := by decide +kernel
theorem dX9_crash_29 : decode cX9_crash 29 = .ok (.istore_n 1, 1) := by decide +kernel
theorem dX9_crash_30 : decode cX9_crash 30 = .ok (.aload_n 0, 1) := by decide +kernel
theorem dX9_crash_31 : decode cX9_crash 31 = .ok (.getfield 50, 3) := by decide +kernel
theorem dX9_crash_34 : decode cX9_crash 34 = .ok (.iload_n 2, 1) := by decide +kernel
theorem dX9_crash_35 : decode cX9_crash 35 = .ok (.aload_n 0, 1) := by decide +kernel
theorem dX9_crash_36 : decode cX9_crash 36 = .ok (.getfield 50, 3) := by decide +kernel
theorem dX9_crash_39 : decode cX9_crash 39 = .ok (.iload_n 2, 1) := by decide +kernel
theorem dX9_crash_40 : decode cX9_crash 40 = .ok (.iaload, 1) := by decide +kernel
theorem dX9_crash_41 : decode cX9_crash 41 = .ok (.iconst 1, 1) := by decide +kernel
theorem dX9_crash_42 : decode cX9_crash 42 = .ok (.if_icmp .ne 7, 3) := by decide +kernel
theorem dX9_crash_45 : decode cX9_crash 45 = .ok (.iconst 5, 1) := by decide +kernel
theorem dX9_crash_46 : decode cX9_crash 46 = .ok (.goto 9, 3) := by decide +kernel
theorem dX9_crash_49 : decode cX9_crash 49 = .ok (.aload_n 0, 1) := by decide +kernel
theorem dX9_crash_50 : decode cX9_crash 50 = .ok (.getfield 50, 3) := by decide +kernel
theorem dX9_crash_53 : decode cX9_crash 53 = .ok (.iload_n 2, 1) := by decide +kernel
theorem dX9_crash_54 : decode cX9_crash 54 = .ok (.iaload, 1) := by decide +kernel
theorem dX9_crash_55 : decode cX9_crash 55 = .ok (.iastore, 1) := by decide +kernel
theorem dX9_crash_56 : decode cX9_crash 56 = .ok (.iinc 2 1, 3) := by decide +kernel
theorem dX9_crash_59 : decode cX9_crash 59 = .ok (.goto (-55), 3) := by decide +kernel
theorem dX9_crash_62 : decode cX9_crash 62 = .ok (.iload_n 1, 1) := by decide +kernel
theorem dX9_crash_63 : decode cX9_crash 63 = .ok (.ireturn, 1) := by decide +kernel
theorem dX9_addFile_0 : decode cX9_addFile 0 = .ok (.aload_n 0, 1) := by decide +kernel
theorem dX9_addFile_1 : decode cX9_addFile 1 = .ok (.dup, 1) := by decide +kernel
theorem dX9_addFile_2 : decode cX9_addFile 2 = .ok (.getfield 164, 3) := by decide +kernel
theorem dX9_addFile_5 : decode cX9_addFile 5 = .ok (.iconst 1, 1) := by decide +kernel
theorem dX9_addFile_6 : decode cX9_addFile 6 = .ok (.iadd, 1) := by decide +kernel
theorem dX9_addFile_7 : decode cX9_addFile 7 = .ok (.putfield 164, 3) := by decide +kernel
theorem dX9_addFile_10 : decode cX9_addFile 10 = .ok (.aload_n 0, 1) := by decide +kernel
theorem dX9_addFile_11 : decode cX9_addFile 11 = .ok (.getfield 44, 3) := by decide +kernel
theorem dX9_addFile_14 : decode cX9_addFile 14 = .ok (.aload_n 0, 1) := by decide +kernel
theorem dX9_addFile_15 : decode cX9_addFile 15 = .ok (.getfield 167, 3) := by decide +kernel
theorem dX9_addFile_18 : decode cX9_addFile 18 = .ok (.aload_n 0, 1) := by decide +kernel
theorem dX9_addFile_19 : decode cX9_addFile 19 = .ok (.getfield 164, 3) := by decide +kernel
theorem dX9_addFile_22 : decode cX9_addFile 22 = .ok (.iastore, 1) := by decide +kernel
theorem dX9_addFile_23 : decode cX9_addFile 23 = .ok (.aload_n 0, 1) := by decide +kernel
theorem dX9_addFile_24 : decode cX9_addFile 24 = .ok (.getfield 47, 3) := by decide +kernel
theorem dX9_addFile_27 : decode cX9_addFile 27 = .ok (.aload_n 0, 1) := by decide +kernel
theorem dX9_addFile_28 : decode cX9_addFile 28 = .ok (.getfield 167, 3) := by decide +kernel
theorem dX9_addFile_31 : decode cX9_addFile 31 = .ok (.iload_n 1, 1) := by decide +kernel
theorem dX9_addFile_32 : decode cX9_addFile 32 = .ok (.iastore, 1) := by decide +kernel
theorem dX9_addFile_33 : decode cX9_addFile 33 = .ok (.aload_n 0, 1) := by decide +kernel
theorem dX9_addFile_34 : decode cX9_addFile 34 = .ok (.dup, 1) := by decide +kernel
theorem dX9_addFile_35 : decode cX9_addFile 35 = .ok (.getfield 167, 3) := by decide +kernel
theorem dX9_addFile_38 : decode cX9_addFile 38 = .ok (.iconst 1, 1) := by decide +kernel
theorem dX9_addFile_39 : decode cX9_addFile 39 = .ok (.iadd, 1) := by decide +kernel
theorem dX9_addFile_40 : decode cX9_addFile 40 = .ok (.putfield 167, 3) := by decide +kernel
theorem dX9_addFile_43 : decode cX9_addFile 43 = .ok (.return_, 1) := by decide +kernel
theorem dX9_dropFile_0 : decode cX9_dropFile 0 = .ok (.aload_n 0, 1) := by decide +kernel
theorem dX9_dropFile_1 : decode cX9_dropFile 1 = .ok (.dup, 1) := by decide +kernel
theorem dX9_dropFile_2 : decode cX9_dropFile 2 = .ok (.getfield 167, 3) := by decide +kernel
theorem dX9_dropFile_5 : decode cX9_dropFile 5 = .ok (.iconst 1, 1) := by decide +kernel
theorem dX9_dropFile_6 : decode cX9_dropFile 6 = .ok (.isub, 1) := by decide +kernel
theorem dX9_dropFile_7 : decode cX9_dropFile 7 = .ok (.putfield 167, 3) := by decide +kernel
theorem dX9_dropFile_10 : decode cX9_dropFile 10 = .ok (.iload_n 1, 1) := by decide +kernel
theorem dX9_dropFile_11 : decode cX9_dropFile 11 = .ok (.istore_n 2, 1) := by decide +kernel
theorem dX9_dropFile_12 : decode cX9_dropFile 12 = .ok (.iload_n 2, 1) := by decide +kernel
theorem dX9_dropFile_13 : decode cX9_dropFile 13 = .ok (.aload_n 0, 1) := by decide +kernel
theorem dX9_dropFile_14 : decode cX9_dropFile 14 = .ok (.getfield 167, 3) := by decide +kernel
theorem dX9_dropFile_17 : decode cX9_dropFile 17 = .ok (.if_icmp .ge 37, 3) := by decide +kernel
theorem dX9_dropFile_20 : decode cX9_dropFile 20 = .ok (.aload_n 0, 1) := by decide +kernel
theorem dX9_dropFile_21 : decode cX9_dropFile 21 = .ok (.getfield 44, 3) := by decide +kernel
theorem dX9_dropFile_24 : decode cX9_dropFile 24 = .ok (.iload_n 2, 1) := by decide +kernel
theorem dX9_dropFile_25 : decode cX9_dropFile 25 = .ok (.aload_n 0, 1) := by decide +kernel
theorem dX9_dropFile_26 : decode cX9_dropFile 26 = .ok (.getfield 44, 3) := by decide +kernel
theorem dX9_dropFile_29 : decode cX9_dropFile 29 = .ok (.iload_n 2, 1) := by decide +kernel
theorem dX9_dropFile_30 : decode cX9_dropFile 30 = .ok (.iconst 1, 1) := by decide +kernel
theorem dX9_dropFile_31 : decode cX9_dropFile 31 = .ok (.iadd, 1) := by decide +kernel
theorem dX9_dropFile_32 : decode cX9_dropFile 32 = .ok (.iaload, 1) := by decide +kernel
theorem dX9_dropFile_33 : decode cX9_dropFile 33 = .ok (.iastore, 1) := by decide +kernel
theorem dX9_dropFile_34 : decode cX9_dropFile 34 = .ok (.aload_n 0, 1) := by decide +kernel
theorem dX9_dropFile_35 : decode cX9_dropFile 35 = .ok (.getfield 47, 3) := by decide +kernel
theorem dX9_dropFile_38 : decode cX9_dropFile 38 = .ok (.iload_n 2, 1) := by decide +kernel
theorem dX9_dropFile_39 : decode cX9_dropFile 39 = .ok (.aload_n 0, 1) := by decide +kernel
theorem dX9_dropFile_40 : decode cX9_dropFile 40 = .ok (.getfield 47, 3) := by decide +kernel
theorem dX9_dropFile_43 : decode cX9_dropFile 43 = .ok (.iload_n 2, 1) := by decide +kernel
theorem dX9_dropFile_44 : decode cX9_dropFile 44 = .ok (.iconst 1, 1) := by decide +kernel
theorem dX9_dropFile_45 : decode cX9_dropFile 45 = .ok (.iadd, 1) := by decide +kernel
theorem dX9_dropFile_46 : decode cX9_dropFile 46 = .ok (.iaload, 1) := by decide +kernel
theorem dX9_dropFile_47 : decode cX9_dropFile 47 = .ok (.iastore, 1) := by decide +kernel
theorem dX9_dropFile_48 : decode cX9_dropFile 48 = .ok (.iinc 2 1, 3) := by decide +kernel
theorem dX9_dropFile_51 : decode cX9_dropFile 51 = .ok (.goto (-39), 3) := by decide +kernel
theorem dX9_dropFile_54 : decode cX9_dropFile 54 = .ok (.return_, 1) := by decide +kernel
theorem dX9_flush_0 : decode cX9_flush 0 = .ok (.aload_n 0, 1) := by decide +kernel
theorem dX9_flush_1 : decode cX9_flush 1 = .ok (.iconst 0, 1) := by decide +kernel
theorem dX9_flush_2 : decode cX9_flush 2 = .ok (.invokevirtual 152, 3) := by decide +kernel
theorem dX9_flush_5 : decode cX9_flush 5 = .ok (.istore_n 1, 1) := by decide +kernel
theorem dX9_flush_6 : decode cX9_flush 6 = .ok (.iload_n 1, 1) := by decide +kernel
theorem dX9_flush_7 : decode cX9_flush 7 = .ok (.ifCond .le 52, 3) := by decide +kernel
theorem dX9_flush_10 : decode cX9_flush 10 = .ok (.aload_n 0, 1) := by decide +kernel
theorem dX9_flush_11 : decode cX9_flush 11 = .ok (.iconst 0, 1) := by decide +kernel
theorem dX9_flush_12 : decode cX9_flush 12 = .ok (.invokevirtual 170, 3) := by decide +kernel
theorem dX9_flush_15 : decode cX9_flush 15 = .ok (.iconst 0, 1) := by decide +kernel
theorem dX9_flush_16 : decode cX9_flush 16 = .ok (.istore_n 2, 1) := by decide +kernel
theorem dX9_flush_17 : decode cX9_flush 17 = .ok (.iload_n 2, 1) := by decide +kernel
theorem dX9_flush_18 : decode cX9_flush 18 = .ok (.aload_n 0, 1) := by decide +kernel
theorem dX9_flush_19 : decode cX9_flush 19 = .ok (.getfield 106, 3) := by decide +kernel
theorem dX9_flush_22 : decode cX9_flush 22 = .ok (.if_icmp .ge 37, 3) := by decide +kernel
theorem dX9_flush_25 : decode cX9_flush 25 = .ok (.aload_n 0, 1) := by decide +kernel
theorem dX9_flush_26 : decode cX9_flush 26 = .ok (.getfield 41, 3) := by decide +kernel
theorem dX9_flush_29 : decode cX9_flush 29 = .ok (.iload_n 2, 1) := by decide +kernel
theorem dX9_flush_30 : decode cX9_flush 30 = .ok (.aload_n 0, 1) := by decide +kernel
theorem dX9_flush_31 : decode cX9_flush 31 = .ok (.getfield 41, 3) := by decide +kernel
theorem dX9_flush_34 : decode cX9_flush 34 = .ok (.iload_n 2, 1) := by decide +kernel
theorem dX9_flush_35 : decode cX9_flush 35 = .ok (.iaload, 1) := by decide +kernel
theorem dX9_flush_36 : decode cX9_flush 36 = .ok (.ifCond .ne 10, 3) := by decide +kernel
theorem dX9_flush_39 : decode cX9_flush 39 = .ok (.aload_n 0, 1) := by decide +kernel
theorem dX9_flush_40 : decode cX9_flush 40 = .ok (.getfield 164, 3) := by decide +kernel
theorem dX9_flush_43 : decode cX9_flush 43 = .ok (.goto 9, 3) := by decide +kernel
theorem dX9_flush_46 : decode cX9_flush 46 = .ok (.aload_n 0, 1) := by decide +kernel
theorem dX9_flush_47 : decode cX9_flush 47 = .ok (.getfield 41, 3) := by decide +kernel
theorem dX9_flush_50 : decode cX9_flush 50 = .ok (.iload_n 2, 1) := by decide +kernel
theorem dX9_flush_51 : decode cX9_flush 51 = .ok (.iaload, 1) := by decide +kernel
theorem dX9_flush_52 : decode cX9_flush 52 = .ok (.iastore, 1) := by decide +kernel
theorem dX9_flush_53 : decode cX9_flush 53 = .ok (.iinc 2 1, 3) := by decide +kernel
theorem dX9_flush_56 : decode cX9_flush 56 = .ok (.goto (-39), 3) := by decide +kernel
theorem dX9_flush_59 : decode cX9_flush 59 = .ok (.iload_n 1, 1) := by decide +kernel
theorem dX9_flush_60 : decode cX9_flush 60 = .ok (.ireturn, 1) := by decide +kernel
theorem dX9_files_0 : decode cX9_files 0 = .ok (.iload_n 1, 1) := by decide +kernel
theorem dX9_files_1 : decode cX9_files 1 = .ok (.ifCond .lt 8, 3) := by decide +kernel
theorem dX9_files_4 : decode cX9_files 4 = .ok (.iload_n 1, 1) := by decide +kernel
theorem dX9_files_5 : decode cX9_files 5 = .ok (.iconst 2, 1) := by decide +kernel
theorem dX9_files_6 : decode cX9_files 6 = .ok (.if_icmp .le 5, 3) := by decide +kernel
theorem dX9_files_9 : decode cX9_files 9 = .ok (.iconst (-1), 1) := by decide +kernel
theorem dX9_files_10 : decode cX9_files 10 = .ok (.ireturn, 1) := by decide +kernel
theorem dX9_files_11 : decode cX9_files 11 = .ok (.iconst 0, 1) := by decide +kernel
theorem dX9_files_12 : decode cX9_files 12 = .ok (.istore_n 2, 1) := by decide +kernel
theorem dX9_files_13 : decode cX9_files 13 = .ok (.iconst 0, 1) := by decide +kernel
theorem dX9_files_14 : decode cX9_files 14 = .ok (.istore_n 3, 1) := by decide +kernel
theorem dX9_files_15 : decode cX9_files 15 = .ok (.iload_n 3, 1) := by decide +kernel
theorem dX9_files_16 : decode cX9_files 16 = .ok (.aload_n 0, 1) := by decide +kernel
theorem dX9_files_17 : decode cX9_files 17 = .ok (.getfield 167, 3) := by decide +kernel
theorem dX9_files_20 : decode cX9_files 20 = .ok (.if_icmp .ge 27, 3) := by decide +kernel
theorem dX9_files_23 : decode cX9_files 23 = .ok (.iload_n 2, 1) := by decide +kernel
theorem dX9_files_24 : decode cX9_files 24 = .ok (.aload_n 0, 1) := by decide +kernel
theorem dX9_files_25 : decode cX9_files 25 = .ok (.getfield 47, 3) := by decide +kernel
theorem dX9_files_28 : decode cX9_files 28 = .ok (.iload_n 3, 1) := by decide +kernel
theorem dX9_files_29 : decode cX9_files 29 = .ok (.iaload, 1) := by decide +kernel
theorem dX9_files_30 : decode cX9_files 30 = .ok (.iload_n 1, 1) := by decide +kernel
theorem dX9_files_31 : decode cX9_files 31 = .ok (.if_icmp .ne 7, 3) := by decide +kernel
theorem dX9_files_34 : decode cX9_files 34 = .ok (.iconst 1, 1) := by decide +kernel
theorem dX9_files_35 : decode cX9_files 35 = .ok (.goto 4, 3) := by decide +kernel
theorem dX9_files_38 : decode cX9_files 38 = .ok (.iconst 0, 1) := by decide +kernel
theorem dX9_files_39 : decode cX9_files 39 = .ok (.iadd, 1) := by decide +kernel
theorem dX9_files_40 : decode cX9_files 40 = .ok (.istore_n 2, 1) := by decide +kernel
theorem dX9_files_41 : decode cX9_files 41 = .ok (.iinc 3 1, 3) := by decide +kernel
theorem dX9_files_44 : decode cX9_files 44 = .ok (.goto (-29), 3) := by decide +kernel
theorem dX9_files_47 : decode cX9_files 47 = .ok (.iload_n 2, 1) := by decide +kernel
theorem dX9_files_48 : decode cX9_files 48 = .ok (.ireturn, 1) := by decide +kernel
theorem dX9_settle_0 : decode cX9_settle 0 = .ok (.iconst 0, 1) := by decide +kernel
theorem dX9_settle_1 : decode cX9_settle 1 = .ok (.istore_n 1, 1) := by decide +kernel
theorem dX9_settle_2 : decode cX9_settle 2 = .ok (.iload_n 1, 1) := by decide +kernel
theorem dX9_settle_3 : decode cX9_settle 3 = .ok (.sipush 600, 3) := by decide +kernel
theorem dX9_settle_6 : decode cX9_settle 6 = .ok (.if_icmp .ge 58, 3) := by decide +kernel
theorem dX9_settle_9 : decode cX9_settle 9 = .ok (.aload_n 0, 1) := by decide +kernel
theorem dX9_settle_10 : decode cX9_settle 10 = .ok (.iconst 0, 1) := by decide +kernel
theorem dX9_settle_11 : decode cX9_settle 11 = .ok (.invokevirtual 173, 3) := by decide +kernel
theorem dX9_settle_14 : decode cX9_settle 14 = .ok (.iconst 2, 1) := by decide +kernel
theorem dX9_settle_15 : decode cX9_settle 15 = .ok (.if_icmp .gt 12, 3) := by decide +kernel
theorem dX9_settle_18 : decode cX9_settle 18 = .ok (.aload_n 0, 1) := by decide +kernel
theorem dX9_settle_19 : decode cX9_settle 19 = .ok (.iconst 1, 1) := by decide +kernel
theorem dX9_settle_20 : decode cX9_settle 20 = .ok (.invokevirtual 173, 3) := by decide +kernel
theorem dX9_settle_23 : decode cX9_settle 23 = .ok (.iconst 3, 1) := by decide +kernel
theorem dX9_settle_24 : decode cX9_settle 24 = .ok (.if_icmp .le 40, 3) := by decide +kernel
theorem dX9_settle_27 : decode cX9_settle 27 = .ok (.aload_n 0, 1) := by decide +kernel
theorem dX9_settle_28 : decode cX9_settle 28 = .ok (.aload_n 0, 1) := by decide +kernel
theorem dX9_settle_29 : decode cX9_settle 29 = .ok (.iconst 0, 1) := by decide +kernel
theorem dX9_settle_30 : decode cX9_settle 30 = .ok (.invokevirtual 173, 3) := by decide +kernel
theorem dX9_settle_33 : decode cX9_settle 33 = .ok (.iconst 2, 1) := by decide +kernel
theorem dX9_settle_34 : decode cX9_settle 34 = .ok (.if_icmp .le 7, 3) := by decide +kernel
theorem dX9_settle_37 : decode cX9_settle 37 = .ok (.iconst 0, 1) := by decide +kernel
theorem dX9_settle_38 : decode cX9_settle 38 = .ok (.goto 4, 3) := by decide +kernel
theorem dX9_settle_41 : decode cX9_settle 41 = .ok (.iconst 1, 1) := by decide +kernel
theorem dX9_settle_42 : decode cX9_settle 42 = .ok (.invokevirtual 175, 3) := by decide +kernel
theorem dX9_settle_45 : decode cX9_settle 45 = .ok (.istore_n 2, 1) := by decide +kernel
theorem dX9_settle_46 : decode cX9_settle 46 = .ok (.iload_n 2, 1) := by decide +kernel
theorem dX9_settle_47 : decode cX9_settle 47 = .ok (.ifCond .ge 9, 3) := by decide +kernel
theorem dX9_settle_50 : decode cX9_settle 50 = .ok (.sipush 600, 3) := by decide +kernel
theorem dX9_settle_53 : decode cX9_settle 53 = .ok (.goto 4, 3) := by decide +kernel
theorem dX9_settle_56 : decode cX9_settle 56 = .ok (.iload_n 1, 1) := by decide +kernel
theorem dX9_settle_57 : decode cX9_settle 57 = .ok (.istore_n 1, 1) := by decide +kernel
theorem dX9_settle_58 : decode cX9_settle 58 = .ok (.iinc 1 1, 3) := by decide +kernel
theorem dX9_settle_61 : decode cX9_settle 61 = .ok (.goto (-59), 3) := by decide +kernel
theorem dX9_settle_64 : decode cX9_settle 64 = .ok (.return_, 1) := by decide +kernel
theorem dX9_compact_0 : decode cX9_compact 0 = .ok (.aload_n 0, 1) := by decide +kernel
theorem dX9_compact_1 : decode cX9_compact 1 = .ok (.iconst 0, 1) := by decide +kernel
theorem dX9_compact_2 : decode cX9_compact 2 = .ok (.invokevirtual 173, 3) := by decide +kernel
theorem dX9_compact_5 : decode cX9_compact 5 = .ok (.ifCond .le 11, 3) := by decide +kernel
theorem dX9_compact_8 : decode cX9_compact 8 = .ok (.aload_n 0, 1) := by decide +kernel
theorem dX9_compact_9 : decode cX9_compact 9 = .ok (.iconst 0, 1) := by decide +kernel
theorem dX9_compact_10 : decode cX9_compact 10 = .ok (.invokevirtual 175, 3) := by decide +kernel
theorem dX9_compact_13 : decode cX9_compact 13 = .ok (.goto 20, 3) := by decide +kernel
theorem dX9_compact_16 : decode cX9_compact 16 = .ok (.aload_n 0, 1) := by decide +kernel
theorem dX9_compact_17 : decode cX9_compact 17 = .ok (.iconst 1, 1) := by decide +kernel
theorem dX9_compact_18 : decode cX9_compact 18 = .ok (.invokevirtual 173, 3) := by decide +kernel
theorem dX9_compact_21 : decode cX9_compact 21 = .ok (.ifCond .le 11, 3) := by decide +kernel
theorem dX9_compact_24 : decode cX9_compact 24 = .ok (.aload_n 0, 1) := by decide +kernel
theorem dX9_compact_25 : decode cX9_compact 25 = .ok (.iconst 1, 1) := by decide +kernel
theorem dX9_compact_26 : decode cX9_compact 26 = .ok (.invokevirtual 175, 3) := by decide +kernel
theorem dX9_compact_29 : decode cX9_compact 29 = .ok (.goto 4, 3) := by decide +kernel
theorem dX9_compact_32 : decode cX9_compact 32 = .ok (.iconst (-1), 1) := by decide +kernel
theorem dX9_compact_33 : decode cX9_compact 33 = .ok (.ireturn, 1) := by decide +kernel
theorem dX9_places_0 : decode cX9_places 0 = .ok (.aload_n 0, 1) := by decide +kernel
theorem dX9_places_1 : decode cX9_places 1 = .ok (.getfield 23, 3) := by decide +kernel
theorem dX9_places_4 : decode cX9_places 4 = .ok (.iload_n 1, 1) := by decide +kernel
theorem dX9_places_5 : decode cX9_places 5 = .ok (.iaload, 1) := by decide +kernel
theorem dX9_places_6 : decode cX9_places 6 = .ok (.aload_n 0, 1) := by decide +kernel
theorem dX9_places_7 : decode cX9_places 7 = .ok (.getfield 23, 3) := by decide +kernel
theorem dX9_places_10 : decode cX9_places 10 = .ok (.iload_n 2, 1) := by decide +kernel
theorem dX9_places_11 : decode cX9_places 11 = .ok (.iaload, 1) := by decide +kernel
theorem dX9_places_12 : decode cX9_places 12 = .ok (.if_icmp .eq 24, 3) := by decide +kernel
theorem dX9_places_15 : decode cX9_places 15 = .ok (.aload_n 0, 1) := by decide +kernel
theorem dX9_places_16 : decode cX9_places 16 = .ok (.getfield 23, 3) := by decide +kernel
theorem dX9_places_19 : decode cX9_places 19 = .ok (.iload_n 1, 1) := by decide +kernel
theorem dX9_places_20 : decode cX9_places 20 = .ok (.iaload, 1) := by decide +kernel
theorem dX9_places_21 : decode cX9_places 21 = .ok (.aload_n 0, 1) := by decide +kernel
theorem dX9_places_22 : decode cX9_places 22 = .ok (.getfield 23, 3) := by decide +kernel
theorem dX9_places_25 : decode cX9_places 25 = .ok (.iload_n 2, 1) := by decide +kernel
theorem dX9_places_26 : decode cX9_places 26 = .ok (.iaload, 1) := by decide +kernel
theorem dX9_places_27 : decode cX9_places 27 = .ok (.if_icmp .ge 7, 3) := by decide +kernel
theorem dX9_places_30 : decode cX9_places 30 = .ok (.iconst (-1), 1) := by decide +kernel
theorem dX9_places_31 : decode cX9_places 31 = .ok (.goto 4, 3) := by decide +kernel
theorem dX9_places_34 : decode cX9_places 34 = .ok (.iconst 1, 1) := by decide +kernel
theorem dX9_places_35 : decode cX9_places 35 = .ok (.ireturn, 1) := by decide +kernel
theorem dX9_places_36 : decode cX9_places 36 = .ok (.aload_n 0, 1) := by decide +kernel
theorem dX9_places_37 : decode cX9_places 37 = .ok (.getfield 26, 3) := by decide +kernel
theorem dX9_places_40 : decode cX9_places 40 = .ok (.iload_n 1, 1) := by decide +kernel
theorem dX9_places_41 : decode cX9_places 41 = .ok (.iaload, 1) := by decide +kernel
theorem dX9_places_42 : decode cX9_places 42 = .ok (.aload_n 0, 1) := by decide +kernel
theorem dX9_places_43 : decode cX9_places 43 = .ok (.getfield 26, 3) := by decide +kernel
theorem dX9_places_46 : decode cX9_places 46 = .ok (.iload_n 2, 1) := by decide +kernel
theorem dX9_places_47 : decode cX9_places 47 = .ok (.iaload, 1) := by decide +kernel
theorem dX9_places_48 : decode cX9_places 48 = .ok (.if_icmp .eq 24, 3) := by decide +kernel
theorem dX9_places_51 : decode cX9_places 51 = .ok (.aload_n 0, 1) := by decide +kernel
theorem dX9_places_52 : decode cX9_places 52 = .ok (.getfield 26, 3) := by decide +kernel
theorem dX9_places_55 : decode cX9_places 55 = .ok (.iload_n 1, 1) := by decide +kernel
theorem dX9_places_56 : decode cX9_places 56 = .ok (.iaload, 1) := by decide +kernel
theorem dX9_places_57 : decode cX9_places 57 = .ok (.aload_n 0, 1) := by decide +kernel
theorem dX9_places_58 : decode cX9_places 58 = .ok (.getfield 26, 3) := by decide +kernel
theorem dX9_places_61 : decode cX9_places 61 = .ok (.iload_n 2, 1) := by decide +kernel
theorem dX9_places_62 : decode cX9_places 62 = .ok (.iaload, 1) := by decide +kernel
theorem dX9_places_63 : decode cX9_places 63 = .ok (.if_icmp .ge 7, 3) := by decide +kernel
theorem dX9_places_66 : decode cX9_places 66 = .ok (.iconst (-1), 1) := by decide +kernel
theorem dX9_places_67 : decode cX9_places 67 = .ok (.goto 4, 3) := by decide +kernel
theorem dX9_places_70 : decode cX9_places 70 = .ok (.iconst 1, 1) := by decide +kernel
theorem dX9_places_71 : decode cX9_places 71 = .ok (.ireturn, 1) := by decide +kernel
theorem dX9_places_72 : decode cX9_places 72 = .ok (.aload_n 0, 1) := by decide +kernel
theorem dX9_places_73 : decode cX9_places 73 = .ok (.getfield 29, 3) := by decide +kernel
theorem dX9_places_76 : decode cX9_places 76 = .ok (.iload_n 1, 1) := by decide +kernel
theorem dX9_places_77 : decode cX9_places 77 = .ok (.iaload, 1) := by decide +kernel
theorem dX9_places_78 : decode cX9_places 78 = .ok (.aload_n 0, 1) := by decide +kernel
theorem dX9_places_79 : decode cX9_places 79 = .ok (.getfield 29, 3) := by decide +kernel
theorem dX9_places_82 : decode cX9_places 82 = .ok (.iload_n 2, 1) := by decide +kernel
theorem dX9_places_83 : decode cX9_places 83 = .ok (.iaload, 1) := by decide +kernel
theorem dX9_places_84 : decode cX9_places 84 = .ok (.if_icmp .ge 7, 3) := by decide +kernel
theorem dX9_places_87 : decode cX9_places 87 = .ok (.iconst (-1), 1) := by decide +kernel
theorem dX9_places_88 : decode cX9_places 88 = .ok (.goto 23, 3) := by decide +kernel
theorem dX9_places_91 : decode cX9_places 91 = .ok (.aload_n 0, 1) := by decide +kernel
theorem dX9_places_92 : decode cX9_places 92 = .ok (.getfield 29, 3) := by decide +kernel
theorem dX9_places_95 : decode cX9_places 95 = .ok (.iload_n 1, 1) := by decide +kernel
theorem dX9_places_96 : decode cX9_places 96 = .ok (.iaload, 1) := by decide +kernel
theorem dX9_places_97 : decode cX9_places 97 = .ok (.aload_n 0, 1) := by decide +kernel
theorem dX9_places_98 : decode cX9_places 98 = .ok (.getfield 29, 3) := by decide +kernel
theorem dX9_places_101 : decode cX9_places 101 = .ok (.iload_n 2, 1) := by decide +kernel
theorem dX9_places_102 : decode cX9_places 102 = .ok (.iaload, 1) := by decide +kernel
theorem dX9_places_103 : decode cX9_places 103 = .ok (.if_icmp .le 7, 3) := by decide +kernel
theorem dX9_places_106 : decode cX9_places 106 = .ok (.iconst 1, 1) := by decide +kernel
theorem dX9_places_107 : decode cX9_places 107 = .ok (.goto 4, 3) := by decide +kernel
theorem dX9_places_110 : decode cX9_places 110 = .ok (.iconst 0, 1) := by decide +kernel
theorem dX9_places_111 : decode cX9_places 111 = .ok (.ireturn, 1) := by decide +kernel
theorem dX9_before_0 : decode cX9_before 0 = .ok (.aload_n 0, 1) := by decide +kernel
theorem dX9_before_1 : decode cX9_before 1 = .ok (.iload_n 1, 1) := by decide +kernel
theorem dX9_before_2 : decode cX9_before 2 = .ok (.iload_n 2, 1) := by decide +kernel
theorem dX9_before_3 : decode cX9_before 3 = .ok (.invokevirtual 178, 3) := by decide +kernel
theorem dX9_before_6 : decode cX9_before 6 = .ok (.istore_n 3, 1) := by decide +kernel
theorem dX9_before_7 : decode cX9_before 7 = .ok (.iload_n 3, 1) := by decide +kernel
theorem dX9_before_8 : decode cX9_before 8 = .ok (.ifCond .lt 22, 3) := by decide +kernel
theorem dX9_before_11 : decode cX9_before 11 = .ok (.iload_n 3, 1) := by decide +kernel
theorem dX9_before_12 : decode cX9_before 12 = .ok (.ifCond .ne 22, 3) := by decide +kernel
theorem dX9_before_15 : decode cX9_before 15 = .ok (.aload_n 0, 1) := by decide +kernel
theorem dX9_before_16 : decode cX9_before 16 = .ok (.getfield 32, 3) := by decide +kernel
theorem dX9_before_19 : decode cX9_before 19 = .ok (.iload_n 1, 1) := by decide +kernel
theorem dX9_before_20 : decode cX9_before 20 = .ok (.iaload, 1) := by decide +kernel
theorem dX9_before_21 : decode cX9_before 21 = .ok (.aload_n 0, 1) := by decide +kernel
theorem dX9_before_22 : decode cX9_before 22 = .ok (.getfield 32, 3) := by decide +kernel
theorem dX9_before_25 : decode cX9_before 25 = .ok (.iload_n 2, 1) := by decide +kernel
theorem dX9_before_26 : decode cX9_before 26 = .ok (.iaload, 1) := by decide +kernel
theorem dX9_before_27 : decode cX9_before 27 = .ok (.if_icmp .le 7, 3) := by decide +kernel
theorem dX9_before_30 : decode cX9_before 30 = .ok (.iconst 1, 1) := by decide +kernel
theorem dX9_before_31 : decode cX9_before 31 = .ok (.goto 4, 3) := by decide +kernel
theorem dX9_before_34 : decode cX9_before 34 = .ok (.iconst 0, 1) := by decide +kernel
theorem dX9_before_35 : decode cX9_before 35 = .ok (.ireturn, 1) := by decide +kernel
theorem dX9_end_0 : decode cX9_end 0 = .ok (.iconst (-1), 1) := by decide +kernel
theorem dX9_end_1 : decode cX9_end 1 = .ok (.istore_n 3, 1) := by decide +kernel
theorem dX9_end_2 : decode cX9_end 2 = .ok (.iconst 0, 1) := by decide +kernel
theorem dX9_end_3 : decode cX9_end 3 = .ok (.istore 4, 2) := by decide +kernel
theorem dX9_end_5 : decode cX9_end 5 = .ok (.iload 4, 2) := by decide +kernel
theorem dX9_end_7 : decode cX9_end 7 = .ok (.aload_n 0, 1) := by decide +kernel
theorem dX9_end_8 : decode cX9_end 8 = .ok (.getfield 106, 3) := by decide +kernel
theorem dX9_end_11 : decode cX9_end 11 = .ok (.if_icmp .ge 38, 3) := by decide +kernel
theorem dX9_end_14 : decode cX9_end 14 = .ok (.aload_n 0, 1) := by decide +kernel
theorem dX9_end_15 : decode cX9_end 15 = .ok (.getfield 41, 3) := by decide +kernel
theorem dX9_end_18 : decode cX9_end 18 = .ok (.iload 4, 2) := by decide +kernel
theorem dX9_end_20 : decode cX9_end 20 = .ok (.iaload, 1) := by decide +kernel
theorem dX9_end_21 : decode cX9_end 21 = .ok (.iload_n 1, 1) := by decide +kernel
theorem dX9_end_22 : decode cX9_end 22 = .ok (.if_icmp .ne 21, 3) := by decide +kernel
theorem dX9_end_25 : decode cX9_end 25 = .ok (.iload_n 3, 1) := by decide +kernel
theorem dX9_end_26 : decode cX9_end 26 = .ok (.ifCond .lt 14, 3) := by decide +kernel
theorem dX9_end_29 : decode cX9_end 29 = .ok (.aload_n 0, 1) := by decide +kernel
theorem dX9_end_30 : decode cX9_end 30 = .ok (.iload 4, 2) := by decide +kernel
theorem dX9_end_32 : decode cX9_end 32 = .ok (.iload_n 3, 1) := by decide +kernel
theorem dX9_end_33 : decode cX9_end 33 = .ok (.invokevirtual 182, 3) := by decide +kernel
theorem dX9_end_36 : decode cX9_end 36 = .ok (.iload_n 2, 1) := by decide +kernel
theorem dX9_end_37 : decode cX9_end 37 = .ok (.if_icmp .ne 6, 3) := by decide +kernel
theorem dX9_end_40 : decode cX9_end 40 = .ok (.iload 4, 2) := by decide +kernel
theorem dX9_end_42 : decode cX9_end 42 = .ok (.istore_n 3, 1) := by decide +kernel
theorem dX9_end_43 : decode cX9_end 43 = .ok (.iinc 4 1, 3) := by decide +kernel
theorem dX9_end_46 : decode cX9_end 46 = .ok (.goto (-41), 3) := by decide +kernel
theorem dX9_end_49 : decode cX9_end 49 = .ok (.iload_n 3, 1) := by decide +kernel
theorem dX9_end_50 : decode cX9_end 50 = .ok (.ireturn, 1) := by decide +kernel
theorem dX9_meet_0 : decode cX9_meet 0 = .ok (.aload_n 0, 1) := by decide +kernel
theorem dX9_meet_1 : decode cX9_meet 1 = .ok (.iload_n 1, 1) := by decide +kernel
theorem dX9_meet_2 : decode cX9_meet 2 = .ok (.iconst 1, 1) := by decide +kernel
theorem dX9_meet_3 : decode cX9_meet 3 = .ok (.invokevirtual 185, 3) := by decide +kernel
theorem dX9_meet_6 : decode cX9_meet 6 = .ok (.istore_n 3, 1) := by decide +kernel
theorem dX9_meet_7 : decode cX9_meet 7 = .ok (.aload_n 0, 1) := by decide +kernel
theorem dX9_meet_8 : decode cX9_meet 8 = .ok (.iload_n 1, 1) := by decide +kernel
theorem dX9_meet_9 : decode cX9_meet 9 = .ok (.iconst 0, 1) := by decide +kernel
theorem dX9_meet_10 : decode cX9_meet 10 = .ok (.invokevirtual 185, 3) := by decide +kernel
theorem dX9_meet_13 : decode cX9_meet 13 = .ok (.istore 4, 2) := by decide +kernel
theorem dX9_meet_15 : decode cX9_meet 15 = .ok (.aload_n 0, 1) := by decide +kernel
theorem dX9_meet_16 : decode cX9_meet 16 = .ok (.iload_n 2, 1) := by decide +kernel
theorem dX9_meet_17 : decode cX9_meet 17 = .ok (.iconst 1, 1) := by decide +kernel
theorem dX9_meet_18 : decode cX9_meet 18 = .ok (.invokevirtual 185, 3) := by decide +kernel
theorem dX9_meet_21 : decode cX9_meet 21 = .ok (.istore 5, 2) := by decide +kernel
theorem dX9_meet_23 : decode cX9_meet 23 = .ok (.aload_n 0, 1) := by decide +kernel
theorem dX9_meet_24 : decode cX9_meet 24 = .ok (.iload_n 2, 1) := by decide +kernel
theorem dX9_meet_25 : decode cX9_meet 25 = .ok (.iconst 0, 1) := by decide +kernel
theorem dX9_meet_26 : decode cX9_meet 26 = .ok (.invokevirtual 185, 3) := by decide +kernel
theorem dX9_meet_29 : decode cX9_meet 29 = .ok (.istore 6, 2) := by decide +kernel
theorem dX9_meet_31 : decode cX9_meet 31 = .ok (.aload_n 0, 1) := by decide +kernel
theorem dX9_meet_32 : decode cX9_meet 32 = .ok (.iload 4, 2) := by decide +kernel
theorem dX9_meet_34 : decode cX9_meet 34 = .ok (.iload 5, 2) := by decide +kernel
theorem dX9_meet_36 : decode cX9_meet 36 = .ok (.invokevirtual 178, 3) := by decide +kernel
theorem dX9_meet_39 : decode cX9_meet 39 = .ok (.ifCond .lt 17, 3) := by decide +kernel
theorem dX9_meet_42 : decode cX9_meet 42 = .ok (.aload_n 0, 1) := by decide +kernel
theorem dX9_meet_43 : decode cX9_meet 43 = .ok (.iload 6, 2) := by decide +kernel
theorem dX9_meet_45 : decode cX9_meet 45 = .ok (.iload_n 3, 1) := by decide +kernel
theorem dX9_meet_46 : decode cX9_meet 46 = .ok (.invokevirtual 178, 3) := by decide +kernel
theorem dX9_meet_49 : decode cX9_meet 49 = .ok (.ifCond .lt 7, 3) := by decide +kernel
theorem dX9_meet_52 : decode cX9_meet 52 = .ok (.iconst 1, 1) := by decide +kernel
theorem dX9_meet_53 : decode cX9_meet 53 = .ok (.goto 4, 3) := by decide +kernel
theorem dX9_meet_56 : decode cX9_meet 56 = .ok (.iconst 0, 1) := by decide +kernel
theorem dX9_meet_57 : decode cX9_meet 57 = .ok (.ireturn, 1) := by decide +kernel
theorem dX9_sort_0 : decode cX9_sort 0 = .ok (.aload_n 0, 1) := by decide +kernel
theorem dX9_sort_1 : decode cX9_sort 1 = .ok (.iconst 0, 1) := by decide +kernel
theorem dX9_sort_2 : decode cX9_sort 2 = .ok (.putfield 188, 3) := by decide +kernel
theorem dX9_sort_5 : decode cX9_sort 5 = .ok (.iconst 0, 1) := by decide +kernel
theorem dX9_sort_6 : decode cX9_sort 6 = .ok (.istore_n 1, 1) := by decide +kernel
theorem dX9_sort_7 : decode cX9_sort 7 = .ok (.iload_n 1, 1) := by decide +kernel
theorem dX9_sort_8 : decode cX9_sort 8 = .ok (.aload_n 0, 1) := by decide +kernel
theorem dX9_sort_9 : decode cX9_sort 9 = .ok (.getfield 106, 3) := by decide +kernel
theorem dX9_sort_12 : decode cX9_sort 12 = .ok (.if_icmp .ge 80, 3) := by decide +kernel
theorem dX9_sort_15 : decode cX9_sort 15 = .ok (.aload_n 0, 1) := by decide +kernel
theorem dX9_sort_16 : decode cX9_sort 16 = .ok (.getfield 78, 3) := by decide +kernel
theorem dX9_sort_19 : decode cX9_sort 19 = .ok (.iload_n 1, 1) := by decide +kernel
theorem dX9_sort_20 : decode cX9_sort 20 = .ok (.baload, 1) := by decide +kernel
theorem dX9_sort_21 : decode cX9_sort 21 = .ok (.ifCond .eq 65, 3) := by decide +kernel
theorem dX9_sort_24 : decode cX9_sort 24 = .ok (.aload_n 0, 1) := by decide +kernel
theorem dX9_sort_25 : decode cX9_sort 25 = .ok (.getfield 188, 3) := by decide +kernel
theorem dX9_sort_28 : decode cX9_sort 28 = .ok (.istore_n 2, 1) := by decide +kernel
theorem dX9_sort_29 : decode cX9_sort 29 = .ok (.iload_n 2, 1) := by decide +kernel
theorem dX9_sort_30 : decode cX9_sort 30 = .ok (.ifCond .le 39, 3) := by decide +kernel
theorem dX9_sort_33 : decode cX9_sort 33 = .ok (.aload_n 0, 1) := by decide +kernel
theorem dX9_sort_34 : decode cX9_sort 34 = .ok (.iload_n 1, 1) := by decide +kernel
theorem dX9_sort_35 : decode cX9_sort 35 = .ok (.aload_n 0, 1) := by decide +kernel
theorem dX9_sort_36 : decode cX9_sort 36 = .ok (.getfield 75, 3) := by decide +kernel
theorem dX9_sort_39 : decode cX9_sort 39 = .ok (.iload_n 2, 1) := by decide +kernel
theorem dX9_sort_40 : decode cX9_sort 40 = .ok (.iconst 1, 1) := by decide +kernel
theorem dX9_sort_41 : decode cX9_sort 41 = .ok (.isub, 1) := by decide +kernel
theorem dX9_sort_42 : decode cX9_sort 42 = .ok (.iaload, 1) := by decide +kernel
theorem dX9_sort_43 : decode cX9_sort 43 = .ok (.invokevirtual 182, 3) := by decide +kernel
theorem dX9_sort_46 : decode cX9_sort 46 = .ok (.ifCond .eq 23, 3) := by decide +kernel
theorem dX9_sort_49 : decode cX9_sort 49 = .ok (.aload_n 0, 1) := by decide +kernel
theorem dX9_sort_50 : decode cX9_sort 50 = .ok (.getfield 75, 3) := by decide +kernel
theorem dX9_sort_53 : decode cX9_sort 53 = .ok (.iload_n 2, 1) := by decide +kernel
theorem dX9_sort_54 : decode cX9_sort 54 = .ok (.aload_n 0, 1) := by decide +kernel
theorem dX9_sort_55 : decode cX9_sort 55 = .ok (.getfield 75, 3) := by decide +kernel
theorem dX9_sort_58 : decode cX9_sort 58 = .ok (.iload_n 2, 1) := by decide +kernel
theorem dX9_sort_59 : decode cX9_sort 59 = .ok (.iconst 1, 1) := by decide +kernel
theorem dX9_sort_60 : decode cX9_sort 60 = .ok (.isub, 1) := by decide +kernel
theorem dX9_sort_61 : decode cX9_sort 61 = .ok (.iaload, 1) := by decide +kernel
theorem dX9_sort_62 : decode cX9_sort 62 = .ok (.iastore, 1) := by decide +kernel
theorem dX9_sort_63 : decode cX9_sort 63 = .ok (.iinc 2 (-1), 3) := by decide +kernel
theorem dX9_sort_66 : decode cX9_sort 66 = .ok (.goto (-37), 3) := by decide +kernel
theorem dX9_sort_69 : decode cX9_sort 69 = .ok (.aload_n 0, 1) := by decide +kernel
theorem dX9_sort_70 : decode cX9_sort 70 = .ok (.getfield 75, 3) := by decide +kernel
theorem dX9_sort_73 : decode cX9_sort 73 = .ok (.iload_n 2, 1) := by decide +kernel
theorem dX9_sort_74 : decode cX9_sort 74 = .ok (.iload_n 1, 1) := by decide +kernel
theorem dX9_sort_75 : decode cX9_sort 75 = .ok (.iastore, 1) := by decide +kernel
theorem dX9_sort_76 : decode cX9_sort 76 = .ok (.aload_n 0, 1) := by decide +kernel
theorem dX9_sort_77 : decode cX9_sort 77 = .ok (.dup, 1) := by decide +kernel
theorem dX9_sort_78 : decode cX9_sort 78 = .ok (.getfield 188, 3) := by decide +kernel
theorem dX9_sort_81 : decode cX9_sort 81 = .ok (.iconst 1, 1) := by decide +kernel
theorem dX9_sort_82 : decode cX9_sort 82 = .ok (.iadd, 1) := by decide +kernel
theorem dX9_sort_83 : decode cX9_sort 83 = .ok (.putfield 188, 3) := by decide +kernel
theorem dX9_sort_86 : decode cX9_sort 86 = .ok (.iinc 1 1, 3) := by decide +kernel
theorem dX9_sort_89 : decode cX9_sort 89 = .ok (.goto (-82), 3) := by decide +kernel
theorem dX9_sort_92 : decode cX9_sort 92 = .ok (.return_, 1) := by decide +kernel
theorem dX9_compacts_0 : decode cX9_compacts 0 = .ok (.iconst 0, 1) := by decide +kernel
theorem dX9_compacts_1 : decode cX9_compacts 1 = .ok (.istore_n 2, 1) := by decide +kernel
theorem dX9_compacts_2 : decode cX9_compacts 2 = .ok (.aload_n 0, 1) := by decide +kernel
theorem dX9_compacts_3 : decode cX9_compacts 3 = .ok (.getfield 47, 3) := by decide +kernel
theorem dX9_compacts_6 : decode cX9_compacts 6 = .ok (.iload_n 2, 1) := by decide +kernel
theorem dX9_compacts_7 : decode cX9_compacts 7 = .ok (.iaload, 1) := by decide +kernel
theorem dX9_compacts_8 : decode cX9_compacts 8 = .ok (.iload_n 1, 1) := by decide +kernel
theorem dX9_compacts_9 : decode cX9_compacts 9 = .ok (.if_icmp .eq 9, 3) := by decide +kernel
theorem dX9_compacts_12 : decode cX9_compacts 12 = .ok (.iinc 2 1, 3) := by decide +kernel
theorem dX9_compacts_15 : decode cX9_compacts 15 = .ok (.goto (-13), 3) := by decide +kernel
theorem dX9_compacts_18 : decode cX9_compacts 18 = .ok (.aload_n 0, 1) := by decide +kernel
theorem dX9_compacts_19 : decode cX9_compacts 19 = .ok (.getfield 44, 3) := by decide +kernel
theorem dX9_compacts_22 : decode cX9_compacts 22 = .ok (.iload_n 2, 1) := by decide +kernel
theorem dX9_compacts_23 : decode cX9_compacts 23 = .ok (.iaload, 1) := by decide +kernel
theorem dX9_compacts_24 : decode cX9_compacts 24 = .ok (.istore_n 3, 1) := by decide +kernel
theorem dX9_compacts_25 : decode cX9_compacts 25 = .ok (.iconst 0, 1) := by decide +kernel
theorem dX9_compacts_26 : decode cX9_compacts 26 = .ok (.istore 4, 2) := by decide +kernel
theorem dX9_compacts_28 : decode cX9_compacts 28 = .ok (.iload 4, 2) := by decide +kernel
theorem dX9_compacts_30 : decode cX9_compacts 30 = .ok (.aload_n 0, 1) := by decide +kernel
theorem dX9_compacts_31 : decode cX9_compacts 31 = .ok (.getfield 106, 3) := by decide +kernel
theorem dX9_compacts_34 : decode cX9_compacts 34 = .ok (.if_icmp .ge 32, 3) := by decide +kernel
theorem dX9_compacts_37 : decode cX9_compacts 37 = .ok (.aload_n 0, 1) := by decide +kernel
theorem dX9_compacts_38 : decode cX9_compacts 38 = .ok (.getfield 78, 3) := by decide +kernel
theorem dX9_compacts_41 : decode cX9_compacts 41 = .ok (.iload 4, 2) := by decide +kernel
theorem dX9_compacts_43 : decode cX9_compacts 43 = .ok (.aload_n 0, 1) := by decide +kernel
theorem dX9_compacts_44 : decode cX9_compacts 44 = .ok (.getfield 41, 3) := by decide +kernel
theorem dX9_compacts_47 : decode cX9_compacts 47 = .ok (.iload 4, 2) := by decide +kernel
theorem dX9_compacts_49 : decode cX9_compacts 49 = .ok (.iaload, 1) := by decide +kernel
theorem dX9_compacts_50 : decode cX9_compacts 50 = .ok (.iload_n 3, 1) := by decide +kernel
theorem dX9_compacts_51 : decode cX9_compacts 51 = .ok (.if_icmp .ne 7, 3) := by decide +kernel
theorem dX9_compacts_54 : decode cX9_compacts 54 = .ok (.iconst 1, 1) := by decide +kernel
theorem dX9_compacts_55 : decode cX9_compacts 55 = .ok (.goto 4, 3) := by decide +kernel
theorem dX9_compacts_58 : decode cX9_compacts 58 = .ok (.iconst 0, 1) := by decide +kernel
theorem dX9_compacts_59 : decode cX9_compacts 59 = .ok (.bastore, 1) := by decide +kernel
theorem dX9_compacts_60 : decode cX9_compacts 60 = .ok (.iinc 4 1, 3) := by decide +kernel
theorem dX9_compacts_63 : decode cX9_compacts 63 = .ok (.goto (-35), 3) := by decide +kernel
theorem dX9_compacts_66 : decode cX9_compacts 66 = .ok (.aload_n 0, 1) := by decide +kernel
theorem dX9_compacts_67 : decode cX9_compacts 67 = .ok (.getfield 167, 3) := by decide +kernel
theorem dX9_compacts_70 : decode cX9_compacts 70 = .ok (.iconst 1, 1) := by decide +kernel
theorem dX9_compacts_71 : decode cX9_compacts 71 = .ok (.isub, 1) := by decide +kernel
theorem dX9_compacts_72 : decode cX9_compacts 72 = .ok (.istore 4, 2) := by decide +kernel
theorem dX9_compacts_74 : decode cX9_compacts 74 = .ok (.iload 4, 2) := by decide +kernel
theorem dX9_compacts_76 : decode cX9_compacts 76 = .ok (.ifCond .lt 103, 3) := by decide +kernel
theorem dX9_compacts_79 : decode cX9_compacts 79 = .ok (.aload_n 0, 1) := by decide +kernel
theorem dX9_compacts_80 : decode cX9_compacts 80 = .ok (.getfield 44, 3) := by decide +kernel
theorem dX9_compacts_83 : decode cX9_compacts 83 = .ok (.iload 4, 2) := by decide +kernel
theorem dX9_compacts_85 : decode cX9_compacts 85 = .ok (.iaload, 1) := by decide +kernel
theorem dX9_compacts_86 : decode cX9_compacts 86 = .ok (.istore 5, 2) := by decide +kernel
theorem dX9_compacts_88 : decode cX9_compacts 88 = .ok (.aload_n 0, 1) := by decide +kernel
theorem dX9_compacts_89 : decode cX9_compacts 89 = .ok (.getfield 47, 3) := by decide +kernel
theorem dX9_compacts_92 : decode cX9_compacts 92 = .ok (.iload 4, 2) := by decide +kernel
theorem dX9_compacts_94 : decode cX9_compacts 94 = .ok (.iaload, 1) := by decide +kernel
theorem dX9_compacts_95 : decode cX9_compacts 95 = .ok (.iload_n 1, 1) := by decide +kernel
theorem dX9_compacts_96 : decode cX9_compacts 96 = .ok (.iconst 1, 1) := by decide +kernel
theorem dX9_compacts_97 : decode cX9_compacts 97 = .ok (.iadd, 1) := by decide +kernel
theorem dX9_compacts_98 : decode cX9_compacts 98 = .ok (.if_icmp .ne 75, 3) := by decide +kernel
theorem dX9_compacts_101 : decode cX9_compacts 101 = .ok (.aload_n 0, 1) := by decide +kernel
theorem dX9_compacts_102 : decode cX9_compacts 102 = .ok (.iload_n 3, 1) := by decide +kernel
theorem dX9_compacts_103 : decode cX9_compacts 103 = .ok (.iload 5, 2) := by decide +kernel
theorem dX9_compacts_105 : decode cX9_compacts 105 = .ok (.invokevirtual 191, 3) := by decide +kernel
theorem dX9_compacts_108 : decode cX9_compacts 108 = .ok (.ifCond .eq 65, 3) := by decide +kernel
theorem dX9_compacts_111 : decode cX9_compacts 111 = .ok (.iconst 0, 1) := by decide +kernel
theorem dX9_compacts_112 : decode cX9_compacts 112 = .ok (.istore 6, 2) := by decide +kernel
theorem dX9_compacts_114 : decode cX9_compacts 114 = .ok (.iload 6, 2) := by decide +kernel
theorem dX9_compacts_116 : decode cX9_compacts 116 = .ok (.aload_n 0, 1) := by decide +kernel
theorem dX9_compacts_117 : decode cX9_compacts 117 = .ok (.getfield 106, 3) := by decide +kernel
theorem dX9_compacts_120 : decode cX9_compacts 120 = .ok (.if_icmp .ge 43, 3) := by decide +kernel
theorem dX9_compacts_123 : decode cX9_compacts 123 = .ok (.aload_n 0, 1) := by decide +kernel
theorem dX9_compacts_124 : decode cX9_compacts 124 = .ok (.getfield 78, 3) := by decide +kernel
theorem dX9_compacts_127 : decode cX9_compacts 127 = .ok (.iload 6, 2) := by decide +kernel
theorem dX9_compacts_129 : decode cX9_compacts 129 = .ok (.aload_n 0, 1) := by decide +kernel
theorem dX9_compacts_130 : decode cX9_compacts 130 = .ok (.getfield 78, 3) := by decide +kernel
theorem dX9_compacts_133 : decode cX9_compacts 133 = .ok (.iload 6, 2) := by decide +kernel
theorem dX9_compacts_135 : decode cX9_compacts 135 = .ok (.baload, 1) := by decide +kernel
theorem dX9_compacts_136 : decode cX9_compacts 136 = .ok (.ifCond .ne 15, 3) := by decide +kernel
theorem dX9_compacts_139 : decode cX9_compacts 139 = .ok (.aload_n 0, 1) := by decide +kernel
theorem dX9_compacts_140 : decode cX9_compacts 140 = .ok (.getfield 41, 3) := by decide +kernel
theorem dX9_compacts_143 : decode cX9_compacts 143 = .ok (.iload 6, 2) := by decide +kernel
theorem dX9_compacts_145 : decode cX9_compacts 145 = .ok (.iaload, 1) := by decide +kernel
theorem dX9_compacts_146 : decode cX9_compacts 146 = .ok (.iload 5, 2) := by decide +kernel
theorem dX9_compacts_148 : decode cX9_compacts 148 = .ok (.if_icmp .ne 7, 3) := by decide +kernel
theorem dX9_compacts_151 : decode cX9_compacts 151 = .ok (.iconst 1, 1) := by decide +kernel
theorem dX9_compacts_152 : decode cX9_compacts 152 = .ok (.goto 4, 3) := by decide +kernel
theorem dX9_compacts_155 : decode cX9_compacts 155 = .ok (.iconst 0, 1) := by decide +kernel
theorem dX9_compacts_156 : decode cX9_compacts 156 = .ok (.bastore, 1) := by decide +kernel
theorem dX9_compacts_157 : decode cX9_compacts 157 = .ok (.iinc 6 1, 3) := by decide +kernel
theorem dX9_compacts_160 : decode cX9_compacts 160 = .ok (.goto (-46), 3) := by decide +kernel
theorem dX9_compacts_163 : decode cX9_compacts 163 = .ok (.aload_n 0, 1) := by decide +kernel
theorem dX9_compacts_164 : decode cX9_compacts 164 = .ok (.getfield 44, 3) := by decide +kernel
theorem dX9_compacts_167 : decode cX9_compacts 167 = .ok (.iload 4, 2) := by decide +kernel
theorem dX9_compacts_169 : decode cX9_compacts 169 = .ok (.iload 5, 2) := by decide +kernel
theorem dX9_compacts_171 : decode cX9_compacts 171 = .ok (.ineg, 1) := by decide +kernel
theorem dX9_compacts_172 : decode cX9_compacts 172 = .ok (.iastore, 1) := by decide +kernel
theorem dX9_compacts_173 : decode cX9_compacts 173 = .ok (.iinc 4 (-1), 3) := by decide +kernel
theorem dX9_compacts_176 : decode cX9_compacts 176 = .ok (.goto (-102), 3) := by decide +kernel
theorem dX9_compacts_179 : decode cX9_compacts 179 = .ok (.aload_n 0, 1) := by decide +kernel
theorem dX9_compacts_180 : decode cX9_compacts 180 = .ok (.getfield 167, 3) := by decide +kernel
theorem dX9_compacts_183 : decode cX9_compacts 183 = .ok (.iconst 1, 1) := by decide +kernel
theorem dX9_compacts_184 : decode cX9_compacts 184 = .ok (.isub, 1) := by decide +kernel
theorem dX9_compacts_185 : decode cX9_compacts 185 = .ok (.istore 4, 2) := by decide +kernel
theorem dX9_compacts_187 : decode cX9_compacts 187 = .ok (.iload 4, 2) := by decide +kernel
theorem dX9_compacts_189 : decode cX9_compacts 189 = .ok (.ifCond .lt 36, 3) := by decide +kernel
theorem dX9_compacts_192 : decode cX9_compacts 192 = .ok (.aload_n 0, 1) := by decide +kernel
theorem dX9_compacts_193 : decode cX9_compacts 193 = .ok (.getfield 44, 3) := by decide +kernel
theorem dX9_compacts_196 : decode cX9_compacts 196 = .ok (.iload 4, 2) := by decide +kernel
theorem dX9_compacts_198 : decode cX9_compacts 198 = .ok (.iaload, 1) := by decide +kernel
theorem dX9_compacts_199 : decode cX9_compacts 199 = .ok (.ifCond .lt 14, 3) := by decide +kernel
theorem dX9_compacts_202 : decode cX9_compacts 202 = .ok (.aload_n 0, 1) := by decide +kernel
theorem dX9_compacts_203 : decode cX9_compacts 203 = .ok (.getfield 44, 3) := by decide +kernel
theorem dX9_compacts_206 : decode cX9_compacts 206 = .ok (.iload 4, 2) := by decide +kernel
theorem dX9_compacts_208 : decode cX9_compacts 208 = .ok (.iaload, 1) := by decide +kernel
theorem dX9_compacts_209 : decode cX9_compacts 209 = .ok (.iload_n 3, 1) := by decide +kernel
theorem dX9_compacts_210 : decode cX9_compacts 210 = .ok (.if_icmp .ne 9, 3) := by decide +kernel
theorem dX9_compacts_213 : decode cX9_compacts 213 = .ok (.aload_n 0, 1) := by decide +kernel
theorem dX9_compacts_214 : decode cX9_compacts 214 = .ok (.iload 4, 2) := by decide +kernel
theorem dX9_compacts_216 : decode cX9_compacts 216 = .ok (.invokevirtual 194, 3) := by decide +kernel
theorem dX9_compacts_219 : decode cX9_compacts 219 = .ok (.iinc 4 (-1), 3) := by decide +kernel
theorem dX9_compacts_222 : decode cX9_compacts 222 = .ok (.goto (-35), 3) := by decide +kernel
theorem dX9_compacts_225 : decode cX9_compacts 225 = .ok (.aload_n 0, 1) := by decide +kernel
theorem dX9_compacts_226 : decode cX9_compacts 226 = .ok (.invokevirtual 197, 3) := by decide +kernel
theorem dX9_compacts_229 : decode cX9_compacts 229 = .ok (.aload_n 0, 1) := by decide +kernel
theorem dX9_compacts_230 : decode cX9_compacts 230 = .ok (.iload_n 1, 1) := by decide +kernel
theorem dX9_compacts_231 : decode cX9_compacts 231 = .ok (.iconst 1, 1) := by decide +kernel
theorem dX9_compacts_232 : decode cX9_compacts 232 = .ok (.iadd, 1) := by decide +kernel
theorem dX9_compacts_233 : decode cX9_compacts 233 = .ok (.invokevirtual 200, 3) := by decide +kernel
theorem dX9_compacts_236 : decode cX9_compacts 236 = .ok (.ireturn, 1) := by decide +kernel
theorem dX9_merge_0 : decode cX9_merge 0 = .ok (.aload_n 0, 1) := by decide +kernel
theorem dX9_merge_1 : decode cX9_merge 1 = .ok (.invokevirtual 203, 3) := by decide +kernel
theorem dX9_merge_4 : decode cX9_merge 4 = .ok (.istore_n 2, 1) := by decide +kernel
theorem dX9_merge_5 : decode cX9_merge 5 = .ok (.iconst 0, 1) := by decide +kernel
theorem dX9_merge_6 : decode cX9_merge 6 = .ok (.istore_n 3, 1) := by decide +kernel
theorem dX9_merge_7 : decode cX9_merge 7 = .ok (.iconst 0, 1) := by decide +kernel
theorem dX9_merge_8 : decode cX9_merge 8 = .ok (.istore 4, 2) := by decide +kernel
theorem dX9_merge_10 : decode cX9_merge 10 = .ok (.iconst (-1), 1) := by decide +kernel
theorem dX9_merge_11 : decode cX9_merge 11 = .ok (.istore 5, 2) := by decide +kernel
theorem dX9_merge_13 : decode cX9_merge 13 = .ok (.iconst 0, 1) := by decide +kernel
theorem dX9_merge_14 : decode cX9_merge 14 = .ok (.istore 6, 2) := by decide +kernel
theorem dX9_merge_16 : decode cX9_merge 16 = .ok (.iconst 0, 1) := by decide +kernel
theorem dX9_merge_17 : decode cX9_merge 17 = .ok (.istore 7, 2) := by decide +kernel
theorem dX9_merge_19 : decode cX9_merge 19 = .ok (.iload 7, 2) := by decide +kernel
theorem dX9_merge_21 : decode cX9_merge 21 = .ok (.aload_n 0, 1) := by decide +kernel
theorem dX9_merge_22 : decode cX9_merge 22 = .ok (.getfield 188, 3) := by decide +kernel
theorem dX9_merge_25 : decode cX9_merge 25 = .ok (.if_icmp .ge 194, 3) := by decide +kernel
theorem dX9_merge_28 : decode cX9_merge 28 = .ok (.aload_n 0, 1) := by decide +kernel
theorem dX9_merge_29 : decode cX9_merge 29 = .ok (.getfield 75, 3) := by decide +kernel
theorem dX9_merge_32 : decode cX9_merge 32 = .ok (.iload 7, 2) := by decide +kernel
theorem dX9_merge_34 : decode cX9_merge 34 = .ok (.iaload, 1) := by decide +kernel
theorem dX9_merge_35 : decode cX9_merge 35 = .ok (.istore 8, 2) := by decide +kernel
theorem dX9_merge_37 : decode cX9_merge 37 = .ok (.iload 7, 2) := by decide +kernel
theorem dX9_merge_39 : decode cX9_merge 39 = .ok (.ifCond .le 25, 3) := by decide +kernel
theorem dX9_merge_42 : decode cX9_merge 42 = .ok (.aload_n 0, 1) := by decide +kernel
theorem dX9_merge_43 : decode cX9_merge 43 = .ok (.aload_n 0, 1) := by decide +kernel
theorem dX9_merge_44 : decode cX9_merge 44 = .ok (.getfield 75, 3) := by decide +kernel
theorem dX9_merge_47 : decode cX9_merge 47 = .ok (.iload 7, 2) := by decide +kernel
theorem dX9_merge_49 : decode cX9_merge 49 = .ok (.iconst 1, 1) := by decide +kernel
theorem dX9_merge_50 : decode cX9_merge 50 = .ok (.isub, 1) := by decide +kernel
theorem dX9_merge_51 : decode cX9_merge 51 = .ok (.iaload, 1) := by decide +kernel
theorem dX9_merge_52 : decode cX9_merge 52 = .ok (.iload 8, 2) := by decide +kernel
theorem dX9_merge_54 : decode cX9_merge 54 = .ok (.invokevirtual 178, 3) := by decide +kernel
theorem dX9_merge_57 : decode cX9_merge 57 = .ok (.ifCond .ne 7, 3) := by decide +kernel
theorem dX9_merge_60 : decode cX9_merge 60 = .ok (.iconst 1, 1) := by decide +kernel
theorem dX9_merge_61 : decode cX9_merge 61 = .ok (.goto 4, 3) := by decide +kernel
theorem dX9_merge_64 : decode cX9_merge 64 = .ok (.iconst 0, 1) := by decide +kernel
theorem dX9_merge_65 : decode cX9_merge 65 = .ok (.istore 9, 2) := by decide +kernel
theorem dX9_merge_67 : decode cX9_merge 67 = .ok (.iload 9, 2) := by decide +kernel
theorem dX9_merge_69 : decode cX9_merge 69 = .ok (.ifCond .eq 12, 3) := by decide +kernel
theorem dX9_merge_72 : decode cX9_merge 72 = .ok (.iload 6, 2) := by decide +kernel
theorem dX9_merge_74 : decode cX9_merge 74 = .ok (.ifCond .eq 7, 3) := by decide +kernel
theorem dX9_merge_77 : decode cX9_merge 77 = .ok (.iconst 1, 1) := by decide +kernel
theorem dX9_merge_78 : decode cX9_merge 78 = .ok (.goto 4, 3) := by decide +kernel
theorem dX9_merge_81 : decode cX9_merge 81 = .ok (.iconst 0, 1) := by decide +kernel
theorem dX9_merge_82 : decode cX9_merge 82 = .ok (.istore 6, 2) := by decide +kernel
theorem dX9_merge_84 : decode cX9_merge 84 = .ok (.iload 6, 2) := by decide +kernel
theorem dX9_merge_86 : decode cX9_merge 86 = .ok (.ifCond .ne 29, 3) := by decide +kernel
theorem dX9_merge_89 : decode cX9_merge 89 = .ok (.aload_n 0, 1) := by decide +kernel
theorem dX9_merge_90 : decode cX9_merge 90 = .ok (.getfield 32, 3) := by decide +kernel
theorem dX9_merge_93 : decode cX9_merge 93 = .ok (.iload 8, 2) := by decide +kernel
theorem dX9_merge_95 : decode cX9_merge 95 = .ok (.iaload, 1) := by decide +kernel
theorem dX9_merge_96 : decode cX9_merge 96 = .ok (.iload_n 2, 1) := by decide +kernel
theorem dX9_merge_97 : decode cX9_merge 97 = .ok (.if_icmp .gt 22, 3) := by decide +kernel
theorem dX9_merge_100 : decode cX9_merge 100 = .ok (.aload_n 0, 1) := by decide +kernel
theorem dX9_merge_101 : decode cX9_merge 101 = .ok (.getfield 35, 3) := by decide +kernel
theorem dX9_merge_104 : decode cX9_merge 104 = .ok (.iload 8, 2) := by decide +kernel
theorem dX9_merge_106 : decode cX9_merge 106 = .ok (.baload, 1) := by decide +kernel
theorem dX9_merge_107 : decode cX9_merge 107 = .ok (.ifCond .ne 12, 3) := by decide +kernel
theorem dX9_merge_110 : decode cX9_merge 110 = .ok (.iload_n 1, 1) := by decide +kernel
theorem dX9_merge_111 : decode cX9_merge 111 = .ok (.iconst 2, 1) := by decide +kernel
theorem dX9_merge_112 : decode cX9_merge 112 = .ok (.if_icmp .ne 7, 3) := by decide +kernel
theorem dX9_merge_115 : decode cX9_merge 115 = .ok (.iconst 1, 1) := by decide +kernel
theorem dX9_merge_116 : decode cX9_merge 116 = .ok (.goto 4, 3) := by decide +kernel
theorem dX9_merge_119 : decode cX9_merge 119 = .ok (.iconst 0, 1) := by decide +kernel
theorem dX9_merge_120 : decode cX9_merge 120 = .ok (.istore 10, 2) := by decide +kernel
theorem dX9_merge_122 : decode cX9_merge 122 = .ok (.iload 6, 2) := by decide +kernel
theorem dX9_merge_124 : decode cX9_merge 124 = .ok (.ifCond .ne 14, 3) := by decide +kernel
theorem dX9_merge_127 : decode cX9_merge 127 = .ok (.aload_n 0, 1) := by decide +kernel
theorem dX9_merge_128 : decode cX9_merge 128 = .ok (.getfield 32, 3) := by decide +kernel
theorem dX9_merge_131 : decode cX9_merge 131 = .ok (.iload 8, 2) := by decide +kernel
theorem dX9_merge_133 : decode cX9_merge 133 = .ok (.iaload, 1) := by decide +kernel
theorem dX9_merge_134 : decode cX9_merge 134 = .ok (.iload_n 2, 1) := by decide +kernel
theorem dX9_merge_135 : decode cX9_merge 135 = .ok (.if_icmp .gt 7, 3) := by decide +kernel
theorem dX9_merge_138 : decode cX9_merge 138 = .ok (.iconst 1, 1) := by decide +kernel
theorem dX9_merge_139 : decode cX9_merge 139 = .ok (.goto 4, 3) := by decide +kernel
theorem dX9_merge_142 : decode cX9_merge 142 = .ok (.iconst 0, 1) := by decide +kernel
theorem dX9_merge_143 : decode cX9_merge 143 = .ok (.istore 6, 2) := by decide +kernel
theorem dX9_merge_145 : decode cX9_merge 145 = .ok (.iload 10, 2) := by decide +kernel
theorem dX9_merge_147 : decode cX9_merge 147 = .ok (.ifCond .eq 17, 3) := by decide +kernel
theorem dX9_merge_150 : decode cX9_merge 150 = .ok (.aload_n 0, 1) := by decide +kernel
theorem dX9_merge_151 : decode cX9_merge 151 = .ok (.getfield 41, 3) := by decide +kernel
theorem dX9_merge_154 : decode cX9_merge 154 = .ok (.iload 8, 2) := by decide +kernel
theorem dX9_merge_156 : decode cX9_merge 156 = .ok (.iconst (-1), 1) := by decide +kernel
theorem dX9_merge_157 : decode cX9_merge 157 = .ok (.iastore, 1) := by decide +kernel
theorem dX9_merge_158 : decode cX9_merge 158 = .ok (.iinc 3 1, 3) := by decide +kernel
theorem dX9_merge_161 : decode cX9_merge 161 = .ok (.goto 52, 3) := by decide +kernel
theorem dX9_merge_164 : decode cX9_merge 164 = .ok (.iload 5, 2) := by decide +kernel
theorem dX9_merge_166 : decode cX9_merge 166 = .ok (.ifCond .lt 21, 3) := by decide +kernel
theorem dX9_merge_169 : decode cX9_merge 169 = .ok (.iload 4, 2) := by decide +kernel
theorem dX9_merge_171 : decode cX9_merge 171 = .ok (.bipush 12, 2) := by decide +kernel
theorem dX9_merge_173 : decode cX9_merge 173 = .ok (.if_icmp .lt 22, 3) := by decide +kernel
theorem dX9_merge_176 : decode cX9_merge 176 = .ok (.aload_n 0, 1) := by decide +kernel
theorem dX9_merge_177 : decode cX9_merge 177 = .ok (.iload 5, 2) := by decide +kernel
theorem dX9_merge_179 : decode cX9_merge 179 = .ok (.iload 8, 2) := by decide +kernel
theorem dX9_merge_181 : decode cX9_merge 181 = .ok (.invokevirtual 178, 3) := by decide +kernel
theorem dX9_merge_184 : decode cX9_merge 184 = .ok (.ifCond .eq 11, 3) := by decide +kernel
theorem dX9_merge_187 : decode cX9_merge 187 = .ok (.aload_n 0, 1) := by decide +kernel
theorem dX9_merge_188 : decode cX9_merge 188 = .ok (.iload_n 1, 1) := by decide +kernel
theorem dX9_merge_189 : decode cX9_merge 189 = .ok (.invokevirtual 170, 3) := by decide +kernel
theorem dX9_merge_192 : decode cX9_merge 192 = .ok (.iconst 0, 1) := by decide +kernel
theorem dX9_merge_193 : decode cX9_merge 193 = .ok (.istore 4, 2) := by decide +kernel
theorem dX9_merge_195 : decode cX9_merge 195 = .ok (.aload_n 0, 1) := by decide +kernel
theorem dX9_merge_196 : decode cX9_merge 196 = .ok (.getfield 41, 3) := by decide +kernel
theorem dX9_merge_199 : decode cX9_merge 199 = .ok (.iload 8, 2) := by decide +kernel
theorem dX9_merge_201 : decode cX9_merge 201 = .ok (.aload_n 0, 1) := by decide +kernel
theorem dX9_merge_202 : decode cX9_merge 202 = .ok (.getfield 164, 3) := by decide +kernel
theorem dX9_merge_205 : decode cX9_merge 205 = .ok (.iastore, 1) := by decide +kernel
theorem dX9_merge_206 : decode cX9_merge 206 = .ok (.iinc 4 1, 3) := by decide +kernel
theorem dX9_merge_209 : decode cX9_merge 209 = .ok (.iload 8, 2) := by decide +kernel
theorem dX9_merge_211 : decode cX9_merge 211 = .ok (.istore 5, 2) := by decide +kernel
theorem dX9_merge_213 : decode cX9_merge 213 = .ok (.iinc 7 1, 3) := by decide +kernel
theorem dX9_merge_216 : decode cX9_merge 216 = .ok (.goto (-197), 3) := by decide +kernel
theorem dX9_merge_219 : decode cX9_merge 219 = .ok (.aload_n 0, 1) := by decide +kernel
theorem dX9_merge_220 : decode cX9_merge 220 = .ok (.invokevirtual 206, 3) := by decide +kernel
theorem dX9_merge_223 : decode cX9_merge 223 = .ok (.iload_n 3, 1) := by decide +kernel
theorem dX9_merge_224 : decode cX9_merge 224 = .ok (.ireturn, 1) := by decide +kernel
theorem dX9_clean_0 : decode cX9_clean 0 = .ok (.iconst 0, 1) := by decide +kernel
theorem dX9_clean_1 : decode cX9_clean 1 = .ok (.istore_n 1, 1) := by decide +kernel
theorem dX9_clean_2 : decode cX9_clean 2 = .ok (.iconst 0, 1) := by decide +kernel
theorem dX9_clean_3 : decode cX9_clean 3 = .ok (.istore_n 2, 1) := by decide +kernel
theorem dX9_clean_4 : decode cX9_clean 4 = .ok (.iload_n 2, 1) := by decide +kernel
theorem dX9_clean_5 : decode cX9_clean 5 = .ok (.aload_n 0, 1) := by decide +kernel
theorem dX9_clean_6 : decode cX9_clean 6 = .ok (.getfield 106, 3) := by decide +kernel
theorem dX9_clean_9 : decode cX9_clean 9 = .ok (.if_icmp .ge 126, 3) := by decide +kernel
theorem dX9_clean_12 : decode cX9_clean 12 = .ok (.aload_n 0, 1) := by decide +kernel
theorem dX9_clean_13 : decode cX9_clean 13 = .ok (.getfield 41, 3) := by decide +kernel
theorem dX9_clean_16 : decode cX9_clean 16 = .ok (.iload_n 2, 1) := by decide +kernel
theorem dX9_clean_17 : decode cX9_clean 17 = .ok (.iaload, 1) := by decide +kernel
theorem dX9_clean_18 : decode cX9_clean 18 = .ok (.ifCond .lt 111, 3) := by decide +kernel
theorem dX9_clean_21 : decode cX9_clean 21 = .ok (.aload_n 0, 1) := by decide +kernel
theorem dX9_clean_22 : decode cX9_clean 22 = .ok (.getfield 23, 3) := by decide +kernel
theorem dX9_clean_25 : decode cX9_clean 25 = .ok (.iload_n 1, 1) := by decide +kernel
theorem dX9_clean_26 : decode cX9_clean 26 = .ok (.aload_n 0, 1) := by decide +kernel
theorem dX9_clean_27 : decode cX9_clean 27 = .ok (.getfield 23, 3) := by decide +kernel
theorem dX9_clean_30 : decode cX9_clean 30 = .ok (.iload_n 2, 1) := by decide +kernel
theorem dX9_clean_31 : decode cX9_clean 31 = .ok (.iaload, 1) := by decide +kernel
theorem dX9_clean_32 : decode cX9_clean 32 = .ok (.iastore, 1) := by decide +kernel
theorem dX9_clean_33 : decode cX9_clean 33 = .ok (.aload_n 0, 1) := by decide +kernel
theorem dX9_clean_34 : decode cX9_clean 34 = .ok (.getfield 26, 3) := by decide +kernel
theorem dX9_clean_37 : decode cX9_clean 37 = .ok (.iload_n 1, 1) := by decide +kernel
theorem dX9_clean_38 : decode cX9_clean 38 = .ok (.aload_n 0, 1) := by decide +kernel
theorem dX9_clean_39 : decode cX9_clean 39 = .ok (.getfield 26, 3) := by decide +kernel
theorem dX9_clean_42 : decode cX9_clean 42 = .ok (.iload_n 2, 1) := by decide +kernel
theorem dX9_clean_43 : decode cX9_clean 43 = .ok (.iaload, 1) := by decide +kernel
theorem dX9_clean_44 : decode cX9_clean 44 = .ok (.iastore, 1) := by decide +kernel
theorem dX9_clean_45 : decode cX9_clean 45 = .ok (.aload_n 0, 1) := by decide +kernel
theorem dX9_clean_46 : decode cX9_clean 46 = .ok (.getfield 29, 3) := by decide +kernel
theorem dX9_clean_49 : decode cX9_clean 49 = .ok (.iload_n 1, 1) := by decide +kernel
theorem dX9_clean_50 : decode cX9_clean 50 = .ok (.aload_n 0, 1) := by decide +kernel
theorem dX9_clean_51 : decode cX9_clean 51 = .ok (.getfield 29, 3) := by decide +kernel
theorem dX9_clean_54 : decode cX9_clean 54 = .ok (.iload_n 2, 1) := by decide +kernel
theorem dX9_clean_55 : decode cX9_clean 55 = .ok (.iaload, 1) := by decide +kernel
theorem dX9_clean_56 : decode cX9_clean 56 = .ok (.iastore, 1) := by decide +kernel
theorem dX9_clean_57 : decode cX9_clean 57 = .ok (.aload_n 0, 1) := by decide +kernel
theorem dX9_clean_58 : decode cX9_clean 58 = .ok (.getfield 32, 3) := by decide +kernel
theorem dX9_clean_61 : decode cX9_clean 61 = .ok (.iload_n 1, 1) := by decide +kernel
theorem dX9_clean_62 : decode cX9_clean 62 = .ok (.aload_n 0, 1) := by decide +kernel
theorem dX9_clean_63 : decode cX9_clean 63 = .ok (.getfield 32, 3) := by decide +kernel
theorem dX9_clean_66 : decode cX9_clean 66 = .ok (.iload_n 2, 1) := by decide +kernel
theorem dX9_clean_67 : decode cX9_clean 67 = .ok (.iaload, 1) := by decide +kernel
theorem dX9_clean_68 : decode cX9_clean 68 = .ok (.iastore, 1) := by decide +kernel
theorem dX9_clean_69 : decode cX9_clean 69 = .ok (.aload_n 0, 1) := by decide +kernel
theorem dX9_clean_70 : decode cX9_clean 70 = .ok (.getfield 35, 3) := by decide +kernel
theorem dX9_clean_73 : decode cX9_clean 73 = .ok (.iload_n 1, 1) := by decide +kernel
theorem dX9_clean_74 : decode cX9_clean 74 = .ok (.aload_n 0, 1) := by decide +kernel
theorem dX9_clean_75 : decode cX9_clean 75 = .ok (.getfield 35, 3) := by decide +kernel
theorem dX9_clean_78 : decode cX9_clean 78 = .ok (.iload_n 2, 1) := by decide +kernel
theorem dX9_clean_79 : decode cX9_clean 79 = .ok (.baload, 1) := by decide +kernel
theorem dX9_clean_80 : decode cX9_clean 80 = .ok (.bastore, 1) := by decide +kernel
theorem dX9_clean_81 : decode cX9_clean 81 = .ok (.aload_n 0, 1) := by decide +kernel
theorem dX9_clean_82 : decode cX9_clean 82 = .ok (.getfield 41, 3) := by decide +kernel
theorem dX9_clean_85 : decode cX9_clean 85 = .ok (.iload_n 1, 1) := by decide +kernel
theorem dX9_clean_86 : decode cX9_clean 86 = .ok (.aload_n 0, 1) := by decide +kernel
theorem dX9_clean_87 : decode cX9_clean 87 = .ok (.getfield 41, 3) := by decide +kernel
theorem dX9_clean_90 : decode cX9_clean 90 = .ok (.iload_n 2, 1) := by decide +kernel
theorem dX9_clean_91 : decode cX9_clean 91 = .ok (.iaload, 1) := by decide +kernel
theorem dX9_clean_92 : decode cX9_clean 92 = .ok (.iastore, 1) := by decide +kernel
theorem dX9_clean_93 : decode cX9_clean 93 = .ok (.iconst 0, 1) := by decide +kernel
theorem dX9_clean_94 : decode cX9_clean 94 = .ok (.istore_n 3, 1) := by decide +kernel
theorem dX9_clean_95 : decode cX9_clean 95 = .ok (.iload_n 3, 1) := by decide +kernel
theorem dX9_clean_96 : decode cX9_clean 96 = .ok (.iconst 3, 1) := by decide +kernel
theorem dX9_clean_97 : decode cX9_clean 97 = .ok (.if_icmp .ge 29, 3) := by decide +kernel
theorem dX9_clean_100 : decode cX9_clean 100 = .ok (.aload_n 0, 1) := by decide +kernel
theorem dX9_clean_101 : decode cX9_clean 101 = .ok (.getfield 38, 3) := by decide +kernel
theorem dX9_clean_104 : decode cX9_clean 104 = .ok (.iconst 3, 1) := by decide +kernel
theorem dX9_clean_105 : decode cX9_clean 105 = .ok (.iload_n 1, 1) := by decide +kernel
theorem dX9_clean_106 : decode cX9_clean 106 = .ok (.imul, 1) := by decide +kernel
theorem dX9_clean_107 : decode cX9_clean 107 = .ok (.iload_n 3, 1) := by decide +kernel
theorem dX9_clean_108 : decode cX9_clean 108 = .ok (.iadd, 1) := by decide +kernel
theorem dX9_clean_109 : decode cX9_clean 109 = .ok (.aload_n 0, 1) := by decide +kernel
theorem dX9_clean_110 : decode cX9_clean 110 = .ok (.getfield 38, 3) := by decide +kernel
theorem dX9_clean_113 : decode cX9_clean 113 = .ok (.iconst 3, 1) := by decide +kernel
theorem dX9_clean_114 : decode cX9_clean 114 = .ok (.iload_n 2, 1) := by decide +kernel
theorem dX9_clean_115 : decode cX9_clean 115 = .ok (.imul, 1) := by decide +kernel
theorem dX9_clean_116 : decode cX9_clean 116 = .ok (.iload_n 3, 1) := by decide +kernel
theorem dX9_clean_117 : decode cX9_clean 117 = .ok (.iadd, 1) := by decide +kernel
theorem dX9_clean_118 : decode cX9_clean 118 = .ok (.iaload, 1) := by decide +kernel
theorem dX9_clean_119 : decode cX9_clean 119 = .ok (.iastore, 1) := by decide +kernel
theorem dX9_clean_120 : decode cX9_clean 120 = .ok (.iinc 3 1, 3) := by decide +kernel
theorem dX9_clean_123 : decode cX9_clean 123 = .ok (.goto (-28), 3) := by decide +kernel
theorem dX9_clean_126 : decode cX9_clean 126 = .ok (.iinc 1 1, 3) := by decide +kernel
theorem dX9_clean_129 : decode cX9_clean 129 = .ok (.iinc 2 1, 3) := by decide +kernel
theorem dX9_clean_132 : decode cX9_clean 132 = .ok (.goto (-128), 3) := by decide +kernel
theorem dX9_clean_135 : decode cX9_clean 135 = .ok (.aload_n 0, 1) := by decide +kernel
theorem dX9_clean_136 : decode cX9_clean 136 = .ok (.iload_n 1, 1) := by decide +kernel
theorem dX9_clean_137 : decode cX9_clean 137 = .ok (.putfield 106, 3) := by decide +kernel
theorem dX9_clean_140 : decode cX9_clean 140 = .ok (.return_, 1) := by decide +kernel
theorem dX9_from_0 : decode cX9_from 0 = .ok (.iconst 1, 1) := by decide +kernel
theorem dX9_from_1 : decode cX9_from 1 = .ok (.istore_n 3, 1) := by decide +kernel
theorem dX9_from_2 : decode cX9_from 2 = .ok (.iload_n 2, 1) := by decide +kernel
theorem dX9_from_3 : decode cX9_from 3 = .ok (.iconst 1, 1) := by decide +kernel
theorem dX9_from_4 : decode cX9_from 4 = .ok (.iadd, 1) := by decide +kernel
theorem dX9_from_5 : decode cX9_from 5 = .ok (.istore 4, 2) := by decide +kernel
theorem dX9_from_7 : decode cX9_from 7 = .ok (.iload_n 3, 1) := by decide +kernel
theorem dX9_from_8 : decode cX9_from 8 = .ok (.ifCond .le 29, 3) := by decide +kernel
theorem dX9_from_11 : decode cX9_from 11 = .ok (.iinc 4 (-1), 3) := by decide +kernel
theorem dX9_from_14 : decode cX9_from 14 = .ok (.iload_n 3, 1) := by decide +kernel
theorem dX9_from_15 : decode cX9_from 15 = .ok (.aload_n 0, 1) := by decide +kernel
theorem dX9_from_16 : decode cX9_from 16 = .ok (.getfield 13, 3) := by decide +kernel
theorem dX9_from_19 : decode cX9_from 19 = .ok (.bipush 15, 2) := by decide +kernel
theorem dX9_from_21 : decode cX9_from 21 = .ok (.iload_n 1, 1) := by decide +kernel
theorem dX9_from_22 : decode cX9_from 22 = .ok (.imul, 1) := by decide +kernel
theorem dX9_from_23 : decode cX9_from 23 = .ok (.iload 4, 2) := by decide +kernel
theorem dX9_from_25 : decode cX9_from 25 = .ok (.iadd, 1) := by decide +kernel
theorem dX9_from_26 : decode cX9_from 26 = .ok (.iaload, 1) := by decide +kernel
theorem dX9_from_27 : decode cX9_from 27 = .ok (.invokestatic 88, 3) := by decide +kernel
theorem dX9_from_30 : decode cX9_from 30 = .ok (.iconst 1, 1) := by decide +kernel
theorem dX9_from_31 : decode cX9_from 31 = .ok (.isub, 1) := by decide +kernel
theorem dX9_from_32 : decode cX9_from 32 = .ok (.iadd, 1) := by decide +kernel
theorem dX9_from_33 : decode cX9_from 33 = .ok (.istore_n 3, 1) := by decide +kernel
theorem dX9_from_34 : decode cX9_from 34 = .ok (.goto (-27), 3) := by decide +kernel
theorem dX9_from_37 : decode cX9_from 37 = .ok (.iload 4, 2) := by decide +kernel
theorem dX9_from_39 : decode cX9_from 39 = .ok (.ireturn, 1) := by decide +kernel
theorem dX9_same_0 : decode cX9_same 0 = .ok (.bipush 8, 2) := by decide +kernel
theorem dX9_same_2 : decode cX9_same 2 = .ok (.iload 4, 2) := by decide +kernel
theorem dX9_same_4 : decode cX9_same 4 = .ok (.iadd, 1) := by decide +kernel
theorem dX9_same_5 : decode cX9_same 5 = .ok (.istore 5, 2) := by decide +kernel
theorem dX9_same_7 : decode cX9_same 7 = .ok (.iload_n 3, 1) := by decide +kernel
theorem dX9_same_8 : decode cX9_same 8 = .ok (.iload_n 2, 1) := by decide +kernel
theorem dX9_same_9 : decode cX9_same 9 = .ok (.isub, 1) := by decide +kernel
theorem dX9_same_10 : decode cX9_same 10 = .ok (.iconst 1, 1) := by decide +kernel
theorem dX9_same_11 : decode cX9_same 11 = .ok (.iadd, 1) := by decide +kernel
theorem dX9_same_12 : decode cX9_same 12 = .ok (.aload_n 0, 1) := by decide +kernel
theorem dX9_same_13 : decode cX9_same 13 = .ok (.getfield 7, 3) := by decide +kernel
theorem dX9_same_16 : decode cX9_same 16 = .ok (.iload 5, 2) := by decide +kernel
theorem dX9_same_18 : decode cX9_same 18 = .ok (.iaload, 1) := by decide +kernel
theorem dX9_same_19 : decode cX9_same 19 = .ok (.if_icmp .ne 7, 3) := by decide +kernel
theorem dX9_same_22 : decode cX9_same 22 = .ok (.iconst 1, 1) := by decide +kernel
theorem dX9_same_23 : decode cX9_same 23 = .ok (.goto 4, 3) := by decide +kernel
theorem dX9_same_26 : decode cX9_same 26 = .ok (.iconst 0, 1) := by decide +kernel
theorem dX9_same_27 : decode cX9_same 27 = .ok (.istore 6, 2) := by decide +kernel
theorem dX9_same_29 : decode cX9_same 29 = .ok (.iconst 0, 1) := by decide +kernel
theorem dX9_same_30 : decode cX9_same 30 = .ok (.istore 7, 2) := by decide +kernel
theorem dX9_same_32 : decode cX9_same 32 = .ok (.iload 7, 2) := by decide +kernel
theorem dX9_same_34 : decode cX9_same 34 = .ok (.aload_n 0, 1) := by decide +kernel
theorem dX9_same_35 : decode cX9_same 35 = .ok (.getfield 7, 3) := by decide +kernel
theorem dX9_same_38 : decode cX9_same 38 = .ok (.iload 5, 2) := by decide +kernel
theorem dX9_same_40 : decode cX9_same 40 = .ok (.iaload, 1) := by decide +kernel
theorem dX9_same_41 : decode cX9_same 41 = .ok (.if_icmp .ge 81, 3) := by decide +kernel
theorem dX9_same_44 : decode cX9_same 44 = .ok (.iload 6, 2) := by decide +kernel
theorem dX9_same_46 : decode cX9_same 46 = .ok (.ifCond .eq 76, 3) := by decide +kernel
theorem dX9_same_49 : decode cX9_same 49 = .ok (.aload_n 0, 1) := by decide +kernel
theorem dX9_same_50 : decode cX9_same 50 = .ok (.getfield 13, 3) := by decide +kernel
theorem dX9_same_53 : decode cX9_same 53 = .ok (.bipush 15, 2) := by decide +kernel
theorem dX9_same_55 : decode cX9_same 55 = .ok (.iload_n 1, 1) := by decide +kernel
theorem dX9_same_56 : decode cX9_same 56 = .ok (.imul, 1) := by decide +kernel
theorem dX9_same_57 : decode cX9_same 57 = .ok (.iload_n 2, 1) := by decide +kernel
theorem dX9_same_58 : decode cX9_same 58 = .ok (.iadd, 1) := by decide +kernel
theorem dX9_same_59 : decode cX9_same 59 = .ok (.iload 7, 2) := by decide +kernel
theorem dX9_same_61 : decode cX9_same 61 = .ok (.iadd, 1) := by decide +kernel
theorem dX9_same_62 : decode cX9_same 62 = .ok (.iaload, 1) := by decide +kernel
theorem dX9_same_63 : decode cX9_same 63 = .ok (.aload_n 0, 1) := by decide +kernel
theorem dX9_same_64 : decode cX9_same 64 = .ok (.getfield 13, 3) := by decide +kernel
theorem dX9_same_67 : decode cX9_same 67 = .ok (.bipush 15, 2) := by decide +kernel
theorem dX9_same_69 : decode cX9_same 69 = .ok (.iload 5, 2) := by decide +kernel
theorem dX9_same_71 : decode cX9_same 71 = .ok (.imul, 1) := by decide +kernel
theorem dX9_same_72 : decode cX9_same 72 = .ok (.iload 7, 2) := by decide +kernel
theorem dX9_same_74 : decode cX9_same 74 = .ok (.iadd, 1) := by decide +kernel
theorem dX9_same_75 : decode cX9_same 75 = .ok (.iaload, 1) := by decide +kernel
theorem dX9_same_76 : decode cX9_same 76 = .ok (.if_icmp .ne 37, 3) := by decide +kernel
theorem dX9_same_79 : decode cX9_same 79 = .ok (.aload_n 0, 1) := by decide +kernel
theorem dX9_same_80 : decode cX9_same 80 = .ok (.getfield 16, 3) := by decide +kernel
theorem dX9_same_83 : decode cX9_same 83 = .ok (.bipush 15, 2) := by decide +kernel
theorem dX9_same_85 : decode cX9_same 85 = .ok (.iload_n 1, 1) := by decide +kernel
theorem dX9_same_86 : decode cX9_same 86 = .ok (.imul, 1) := by decide +kernel
theorem dX9_same_87 : decode cX9_same 87 = .ok (.iload_n 2, 1) := by decide +kernel
theorem dX9_same_88 : decode cX9_same 88 = .ok (.iadd, 1) := by decide +kernel
theorem dX9_same_89 : decode cX9_same 89 = .ok (.iload 7, 2) := by decide +kernel
theorem dX9_same_91 : decode cX9_same 91 = .ok (.iadd, 1) := by decide +kernel
theorem dX9_same_92 : decode cX9_same 92 = .ok (.iaload, 1) := by decide +kernel
theorem dX9_same_93 : decode cX9_same 93 = .ok (.aload_n 0, 1) := by decide +kernel
theorem dX9_same_94 : decode cX9_same 94 = .ok (.getfield 16, 3) := by decide +kernel
theorem dX9_same_97 : decode cX9_same 97 = .ok (.bipush 15, 2) := by decide +kernel
theorem dX9_same_99 : decode cX9_same 99 = .ok (.iload 5, 2) := by decide +kernel
theorem dX9_same_101 : decode cX9_same 101 = .ok (.imul, 1) := by decide +kernel
theorem dX9_same_102 : decode cX9_same 102 = .ok (.iload 7, 2) := by decide +kernel
theorem dX9_same_104 : decode cX9_same 104 = .ok (.iadd, 1) := by decide +kernel
theorem dX9_same_105 : decode cX9_same 105 = .ok (.iaload, 1) := by decide +kernel
theorem dX9_same_106 : decode cX9_same 106 = .ok (.if_icmp .ne 7, 3) := by decide +kernel
theorem dX9_same_109 : decode cX9_same 109 = .ok (.iconst 1, 1) := by decide +kernel
theorem dX9_same_110 : decode cX9_same 110 = .ok (.goto 4, 3) := by decide +kernel
theorem dX9_same_113 : decode cX9_same 113 = .ok (.iconst 0, 1) := by decide +kernel
theorem dX9_same_114 : decode cX9_same 114 = .ok (.istore 6, 2) := by decide +kernel
theorem dX9_same_116 : decode cX9_same 116 = .ok (.iinc 7 1, 3) := by decide +kernel
theorem dX9_same_119 : decode cX9_same 119 = .ok (.goto (-87), 3) := by decide +kernel
theorem dX9_same_122 : decode cX9_same 122 = .ok (.iload 6, 2) := by decide +kernel
theorem dX9_same_124 : decode cX9_same 124 = .ok (.ireturn, 1) := by decide +kernel
theorem dX9_bound_0 : decode cX9_bound 0 = .ok (.aload_n 0, 1) := by decide +kernel
theorem dX9_bound_1 : decode cX9_bound 1 = .ok (.iconst 1, 1) := by decide +kernel
theorem dX9_bound_2 : decode cX9_bound 2 = .ok (.putfield 209, 3) := by decide +kernel
theorem dX9_bound_5 : decode cX9_bound 5 = .ok (.aload_n 0, 1) := by decide +kernel
theorem dX9_bound_6 : decode cX9_bound 6 = .ok (.lload_n 1, 1) := by decide +kernel
theorem dX9_bound_7 : decode cX9_bound 7 = .ok (.aload_n 0, 1) := by decide +kernel
theorem dX9_bound_8 : decode cX9_bound 8 = .ok (.getfield 213, 3) := by decide +kernel
theorem dX9_bound_11 : decode cX9_bound 11 = .ok (.lcmp, 1) := by decide +kernel
theorem dX9_bound_12 : decode cX9_bound 12 = .ok (.ifCond .le 7, 3) := by decide +kernel
theorem dX9_bound_15 : decode cX9_bound 15 = .ok (.lload_n 1, 1) := by decide +kernel
theorem dX9_bound_16 : decode cX9_bound 16 = .ok (.goto 7, 3) := by decide +kernel
theorem dX9_bound_19 : decode cX9_bound 19 = .ok (.aload_n 0, 1) := by decide +kernel
theorem dX9_bound_20 : decode cX9_bound 20 = .ok (.getfield 213, 3) := by decide +kernel
theorem dX9_bound_23 : decode cX9_bound 23 = .ok (.putfield 213, 3) := by decide +kernel
theorem dX9_bound_26 : decode cX9_bound 26 = .ok (.aload_n 0, 1) := by decide +kernel
theorem dX9_bound_27 : decode cX9_bound 27 = .ok (.lload_n 3, 1) := by decide +kernel
theorem dX9_bound_28 : decode cX9_bound 28 = .ok (.aload_n 0, 1) := by decide +kernel
theorem dX9_bound_29 : decode cX9_bound 29 = .ok (.getfield 217, 3) := by decide +kernel
theorem dX9_bound_32 : decode cX9_bound 32 = .ok (.lcmp, 1) := by decide +kernel
theorem dX9_bound_33 : decode cX9_bound 33 = .ok (.ifCond .ge 7, 3) := by decide +kernel
theorem dX9_bound_36 : decode cX9_bound 36 = .ok (.lload_n 3, 1) := by decide +kernel
theorem dX9_bound_37 : decode cX9_bound 37 = .ok (.goto 7, 3) := by decide +kernel
theorem dX9_bound_40 : decode cX9_bound 40 = .ok (.aload_n 0, 1) := by decide +kernel
theorem dX9_bound_41 : decode cX9_bound 41 = .ok (.getfield 217, 3) := by decide +kernel
theorem dX9_bound_44 : decode cX9_bound 44 = .ok (.putfield 217, 3) := by decide +kernel
theorem dX9_bound_47 : decode cX9_bound 47 = .ok (.return_, 1) := by decide +kernel
theorem dX9_conjunct_0 : decode cX9_conjunct 0 = .ok (.aload_n 0, 1) := by decide +kernel
theorem dX9_conjunct_1 : decode cX9_conjunct 1 = .ok (.getfield 13, 3) := by decide +kernel
theorem dX9_conjunct_4 : decode cX9_conjunct 4 = .ok (.bipush 15, 2) := by decide +kernel
theorem dX9_conjunct_6 : decode cX9_conjunct 6 = .ok (.iload_n 1, 1) := by decide +kernel
theorem dX9_conjunct_7 : decode cX9_conjunct 7 = .ok (.imul, 1) := by decide +kernel
theorem dX9_conjunct_8 : decode cX9_conjunct 8 = .ok (.iload_n 2, 1) := by decide +kernel
theorem dX9_conjunct_9 : decode cX9_conjunct 9 = .ok (.iadd, 1) := by decide +kernel
theorem dX9_conjunct_10 : decode cX9_conjunct 10 = .ok (.iaload, 1) := by decide +kernel
theorem dX9_conjunct_11 : decode cX9_conjunct 11 = .ok (.istore 4, 2) := by decide +kernel
theorem dX9_conjunct_13 : decode cX9_conjunct 13 = .ok (.iload 4, 2) := by decide +kernel
theorem dX9_conjunct_15 : decode cX9_conjunct 15 = .ok (.bipush 7, 2) := by decide +kernel
theorem dX9_conjunct_17 : decode cX9_conjunct 17 = .ok (.if_icmp .eq 11, 3) := by decide +kernel
theorem dX9_conjunct_20 : decode cX9_conjunct 20 = .ok (.iload 4, 2) := by decide +kernel
theorem dX9_conjunct_22 : decode cX9_conjunct 22 = .ok (.bipush 8, 2) := by decide +kernel
theorem dX9_conjunct_24 : decode cX9_conjunct 24 = .ok (.if_icmp .eq 4, 3) := by decide +kernel
theorem dX9_conjunct_27 : decode cX9_conjunct 27 = .ok (.return_, 1) := by decide +kernel
theorem dX9_conjunct_28 : decode cX9_conjunct 28 = .ok (.aload_n 0, 1) := by decide +kernel
theorem dX9_conjunct_29 : decode cX9_conjunct 29 = .ok (.iload_n 1, 1) := by decide +kernel
theorem dX9_conjunct_30 : decode cX9_conjunct 30 = .ok (.iload_n 2, 1) := by decide +kernel
theorem dX9_conjunct_31 : decode cX9_conjunct 31 = .ok (.iconst 1, 1) := by decide +kernel
theorem dX9_conjunct_32 : decode cX9_conjunct 32 = .ok (.isub, 1) := by decide +kernel
theorem dX9_conjunct_33 : decode cX9_conjunct 33 = .ok (.invokevirtual 220, 3) := by decide +kernel
theorem dX9_conjunct_36 : decode cX9_conjunct 36 = .ok (.istore 5, 2) := by decide +kernel
theorem dX9_conjunct_38 : decode cX9_conjunct 38 = .ok (.aload_n 0, 1) := by decide +kernel
theorem dX9_conjunct_39 : decode cX9_conjunct 39 = .ok (.iload_n 1, 1) := by decide +kernel
theorem dX9_conjunct_40 : decode cX9_conjunct 40 = .ok (.iload 5, 2) := by decide +kernel
theorem dX9_conjunct_42 : decode cX9_conjunct 42 = .ok (.iconst 1, 1) := by decide +kernel
theorem dX9_conjunct_43 : decode cX9_conjunct 43 = .ok (.isub, 1) := by decide +kernel
theorem dX9_conjunct_44 : decode cX9_conjunct 44 = .ok (.invokevirtual 220, 3) := by decide +kernel
theorem dX9_conjunct_47 : decode cX9_conjunct 47 = .ok (.istore 6, 2) := by decide +kernel
theorem dX9_conjunct_49 : decode cX9_conjunct 49 = .ok (.iload 5, 2) := by decide +kernel
theorem dX9_conjunct_51 : decode cX9_conjunct 51 = .ok (.iload_n 2, 1) := by decide +kernel
theorem dX9_conjunct_52 : decode cX9_conjunct 52 = .ok (.iconst 1, 1) := by decide +kernel
theorem dX9_conjunct_53 : decode cX9_conjunct 53 = .ok (.isub, 1) := by decide +kernel
theorem dX9_conjunct_54 : decode cX9_conjunct 54 = .ok (.if_icmp .ne 84, 3) := by decide +kernel
theorem dX9_conjunct_57 : decode cX9_conjunct 57 = .ok (.aload_n 0, 1) := by decide +kernel
theorem dX9_conjunct_58 : decode cX9_conjunct 58 = .ok (.getfield 13, 3) := by decide +kernel
theorem dX9_conjunct_61 : decode cX9_conjunct 61 = .ok (.bipush 15, 2) := by decide +kernel
theorem dX9_conjunct_63 : decode cX9_conjunct 63 = .ok (.iload_n 1, 1) := by decide +kernel
theorem dX9_conjunct_64 : decode cX9_conjunct 64 = .ok (.imul, 1) := by decide +kernel
theorem dX9_conjunct_65 : decode cX9_conjunct 65 = .ok (.iload 5, 2) := by decide +kernel
theorem dX9_conjunct_67 : decode cX9_conjunct 67 = .ok (.iadd, 1) := by decide +kernel
theorem dX9_conjunct_68 : decode cX9_conjunct 68 = .ok (.iaload, 1) := by decide +kernel
theorem dX9_conjunct_69 : decode cX9_conjunct 69 = .ok (.iconst 3, 1) := by decide +kernel
theorem dX9_conjunct_70 : decode cX9_conjunct 70 = .ok (.if_icmp .ne 68, 3) := by decide +kernel
theorem dX9_conjunct_73 : decode cX9_conjunct 73 = .ok (.aload_n 0, 1) := by decide +kernel
theorem dX9_conjunct_74 : decode cX9_conjunct 74 = .ok (.iload_n 1, 1) := by decide +kernel
theorem dX9_conjunct_75 : decode cX9_conjunct 75 = .ok (.iload 6, 2) := by decide +kernel
theorem dX9_conjunct_77 : decode cX9_conjunct 77 = .ok (.iload 5, 2) := by decide +kernel
theorem dX9_conjunct_79 : decode cX9_conjunct 79 = .ok (.iconst 1, 1) := by decide +kernel
theorem dX9_conjunct_80 : decode cX9_conjunct 80 = .ok (.isub, 1) := by decide +kernel
theorem dX9_conjunct_81 : decode cX9_conjunct 81 = .ok (.iload_n 3, 1) := by decide +kernel
theorem dX9_conjunct_82 : decode cX9_conjunct 82 = .ok (.invokevirtual 223, 3) := by decide +kernel
theorem dX9_conjunct_85 : decode cX9_conjunct 85 = .ok (.ifCond .eq 53, 3) := by decide +kernel
theorem dX9_conjunct_88 : decode cX9_conjunct 88 = .ok (.aload_n 0, 1) := by decide +kernel
theorem dX9_conjunct_89 : decode cX9_conjunct 89 = .ok (.getfield 16, 3) := by decide +kernel
theorem dX9_conjunct_92 : decode cX9_conjunct 92 = .ok (.bipush 15, 2) := by decide +kernel
theorem dX9_conjunct_94 : decode cX9_conjunct 94 = .ok (.iload_n 1, 1) := by decide +kernel
theorem dX9_conjunct_95 : decode cX9_conjunct 95 = .ok (.imul, 1) := by decide +kernel
theorem dX9_conjunct_96 : decode cX9_conjunct 96 = .ok (.iload 5, 2) := by decide +kernel
theorem dX9_conjunct_98 : decode cX9_conjunct 98 = .ok (.iadd, 1) := by decide +kernel
theorem dX9_conjunct_99 : decode cX9_conjunct 99 = .ok (.iaload, 1) := by decide +kernel
theorem dX9_conjunct_100 : decode cX9_conjunct 100 = .ok (.i2l, 1) := by decide +kernel
theorem dX9_conjunct_101 : decode cX9_conjunct 101 = .ok (.lstore 7, 2) := by decide +kernel
theorem dX9_conjunct_103 : decode cX9_conjunct 103 = .ok (.aload_n 0, 1) := by decide +kernel
theorem dX9_conjunct_104 : decode cX9_conjunct 104 = .ok (.iload 4, 2) := by decide +kernel
theorem dX9_conjunct_106 : decode cX9_conjunct 106 = .ok (.bipush 8, 2) := by decide +kernel
theorem dX9_conjunct_108 : decode cX9_conjunct 108 = .ok (.if_icmp .ne 8, 3) := by decide +kernel
theorem dX9_conjunct_111 : decode cX9_conjunct 111 = .ok (.lload 7, 2) := by decide +kernel
theorem dX9_conjunct_113 : decode cX9_conjunct 113 = .ok (.goto 6, 3) := by decide +kernel
theorem dX9_conjunct_116 : decode cX9_conjunct 116 = .ok (.ldc2_w 227, 3) := by decide +kernel
theorem dX9_conjunct_119 : decode cX9_conjunct 119 = .ok (.iload 4, 2) := by decide +kernel
theorem dX9_conjunct_121 : decode cX9_conjunct 121 = .ok (.bipush 8, 2) := by decide +kernel
theorem dX9_conjunct_123 : decode cX9_conjunct 123 = .ok (.if_icmp .ne 8, 3) := by decide +kernel
theorem dX9_conjunct_126 : decode cX9_conjunct 126 = .ok (.lload 7, 2) := by decide +kernel
theorem dX9_conjunct_128 : decode cX9_conjunct 128 = .ok (.goto 7, 3) := by decide +kernel
theorem dX9_conjunct_131 : decode cX9_conjunct 131 = .ok (.lload 7, 2) := by decide +kernel
theorem dX9_conjunct_133 : decode cX9_conjunct 133 = .ok (.lconst 1, 1) := by decide +kernel
theorem dX9_conjunct_134 : decode cX9_conjunct 134 = .ok (.lsub, 1) := by decide +kernel
theorem dX9_conjunct_135 : decode cX9_conjunct 135 = .ok (.invokevirtual 229, 3) := by decide +kernel
theorem dX9_conjunct_138 : decode cX9_conjunct 138 = .ok (.iload 6, 2) := by decide +kernel
theorem dX9_conjunct_140 : decode cX9_conjunct 140 = .ok (.iload 5, 2) := by decide +kernel
theorem dX9_conjunct_142 : decode cX9_conjunct 142 = .ok (.iconst 1, 1) := by decide +kernel
theorem dX9_conjunct_143 : decode cX9_conjunct 143 = .ok (.isub, 1) := by decide +kernel
theorem dX9_conjunct_144 : decode cX9_conjunct 144 = .ok (.if_icmp .ne 83, 3) := by decide +kernel
theorem dX9_conjunct_147 : decode cX9_conjunct 147 = .ok (.aload_n 0, 1) := by decide +kernel
theorem dX9_conjunct_148 : decode cX9_conjunct 148 = .ok (.getfield 13, 3) := by decide +kernel
theorem dX9_conjunct_151 : decode cX9_conjunct 151 = .ok (.bipush 15, 2) := by decide +kernel
theorem dX9_conjunct_153 : decode cX9_conjunct 153 = .ok (.iload_n 1, 1) := by decide +kernel
theorem dX9_conjunct_154 : decode cX9_conjunct 154 = .ok (.imul, 1) := by decide +kernel
theorem dX9_conjunct_155 : decode cX9_conjunct 155 = .ok (.iload 6, 2) := by decide +kernel
theorem dX9_conjunct_157 : decode cX9_conjunct 157 = .ok (.iadd, 1) := by decide +kernel
theorem dX9_conjunct_158 : decode cX9_conjunct 158 = .ok (.iaload, 1) := by decide +kernel
theorem dX9_conjunct_159 : decode cX9_conjunct 159 = .ok (.iconst 3, 1) := by decide +kernel
theorem dX9_conjunct_160 : decode cX9_conjunct 160 = .ok (.if_icmp .ne 67, 3) := by decide +kernel
theorem dX9_conjunct_163 : decode cX9_conjunct 163 = .ok (.aload_n 0, 1) := by decide +kernel
theorem dX9_conjunct_164 : decode cX9_conjunct 164 = .ok (.iload_n 1, 1) := by decide +kernel
theorem dX9_conjunct_165 : decode cX9_conjunct 165 = .ok (.iload 5, 2) := by decide +kernel
theorem dX9_conjunct_167 : decode cX9_conjunct 167 = .ok (.iload_n 2, 1) := by decide +kernel
theorem dX9_conjunct_168 : decode cX9_conjunct 168 = .ok (.iconst 1, 1) := by decide +kernel
theorem dX9_conjunct_169 : decode cX9_conjunct 169 = .ok (.isub, 1) := by decide +kernel
theorem dX9_conjunct_170 : decode cX9_conjunct 170 = .ok (.iload_n 3, 1) := by decide +kernel
theorem dX9_conjunct_171 : decode cX9_conjunct 171 = .ok (.invokevirtual 223, 3) := by decide +kernel
theorem dX9_conjunct_174 : decode cX9_conjunct 174 = .ok (.ifCond .eq 53, 3) := by decide +kernel
theorem dX9_conjunct_177 : decode cX9_conjunct 177 = .ok (.aload_n 0, 1) := by decide +kernel
theorem dX9_conjunct_178 : decode cX9_conjunct 178 = .ok (.getfield 16, 3) := by decide +kernel
theorem dX9_conjunct_181 : decode cX9_conjunct 181 = .ok (.bipush 15, 2) := by decide +kernel
theorem dX9_conjunct_183 : decode cX9_conjunct 183 = .ok (.iload_n 1, 1) := by decide +kernel
theorem dX9_conjunct_184 : decode cX9_conjunct 184 = .ok (.imul, 1) := by decide +kernel
theorem dX9_conjunct_185 : decode cX9_conjunct 185 = .ok (.iload 6, 2) := by decide +kernel
theorem dX9_conjunct_187 : decode cX9_conjunct 187 = .ok (.iadd, 1) := by decide +kernel
theorem dX9_conjunct_188 : decode cX9_conjunct 188 = .ok (.iaload, 1) := by decide +kernel
theorem dX9_conjunct_189 : decode cX9_conjunct 189 = .ok (.i2l, 1) := by decide +kernel
theorem dX9_conjunct_190 : decode cX9_conjunct 190 = .ok (.lstore 7, 2) := by decide +kernel
theorem dX9_conjunct_192 : decode cX9_conjunct 192 = .ok (.aload_n 0, 1) := by decide +kernel
theorem dX9_conjunct_193 : decode cX9_conjunct 193 = .ok (.iload 4, 2) := by decide +kernel
theorem dX9_conjunct_195 : decode cX9_conjunct 195 = .ok (.bipush 8, 2) := by decide +kernel
theorem dX9_conjunct_197 : decode cX9_conjunct 197 = .ok (.if_icmp .ne 8, 3) := by decide +kernel
theorem dX9_conjunct_200 : decode cX9_conjunct 200 = .ok (.lload 7, 2) := by decide +kernel
theorem dX9_conjunct_202 : decode cX9_conjunct 202 = .ok (.goto 7, 3) := by decide +kernel
theorem dX9_conjunct_205 : decode cX9_conjunct 205 = .ok (.lload 7, 2) := by decide +kernel
theorem dX9_conjunct_207 : decode cX9_conjunct 207 = .ok (.lconst 1, 1) := by decide +kernel
theorem dX9_conjunct_208 : decode cX9_conjunct 208 = .ok (.ladd, 1) := by decide +kernel
theorem dX9_conjunct_209 : decode cX9_conjunct 209 = .ok (.iload 4, 2) := by decide +kernel
theorem dX9_conjunct_211 : decode cX9_conjunct 211 = .ok (.bipush 8, 2) := by decide +kernel
theorem dX9_conjunct_213 : decode cX9_conjunct 213 = .ok (.if_icmp .ne 8, 3) := by decide +kernel
theorem dX9_conjunct_216 : decode cX9_conjunct 216 = .ok (.lload 7, 2) := by decide +kernel
theorem dX9_conjunct_218 : decode cX9_conjunct 218 = .ok (.goto 6, 3) := by decide +kernel
theorem dX9_conjunct_221 : decode cX9_conjunct 221 = .ok (.ldc2_w 233, 3) := by decide +kernel
theorem dX9_conjunct_224 : decode cX9_conjunct 224 = .ok (.invokevirtual 229, 3) := by decide +kernel
theorem dX9_conjunct_227 : decode cX9_conjunct 227 = .ok (.return_, 1) := by decide +kernel
theorem dX9_conjuncts_0 : decode cX9_conjuncts 0 = .ok (.aload_n 0, 1) := by decide +kernel
theorem dX9_conjuncts_1 : decode cX9_conjuncts 1 = .ok (.iconst 0, 1) := by decide +kernel
theorem dX9_conjuncts_2 : decode cX9_conjuncts 2 = .ok (.putfield 209, 3) := by decide +kernel
theorem dX9_conjuncts_5 : decode cX9_conjuncts 5 = .ok (.aload_n 0, 1) := by decide +kernel
theorem dX9_conjuncts_6 : decode cX9_conjuncts 6 = .ok (.ldc2_w 227, 3) := by decide +kernel
theorem dX9_conjuncts_9 : decode cX9_conjuncts 9 = .ok (.putfield 213, 3) := by decide +kernel
theorem dX9_conjuncts_12 : decode cX9_conjuncts 12 = .ok (.aload_n 0, 1) := by decide +kernel
theorem dX9_conjuncts_13 : decode cX9_conjuncts 13 = .ok (.ldc2_w 233, 3) := by decide +kernel
theorem dX9_conjuncts_16 : decode cX9_conjuncts 16 = .ok (.putfield 217, 3) := by decide +kernel
theorem dX9_conjuncts_19 : decode cX9_conjuncts 19 = .ok (.aload_n 0, 1) := by decide +kernel
theorem dX9_conjuncts_20 : decode cX9_conjuncts 20 = .ok (.getfield 65, 3) := by decide +kernel
theorem dX9_conjuncts_23 : decode cX9_conjuncts 23 = .ok (.iconst 0, 1) := by decide +kernel
theorem dX9_conjuncts_24 : decode cX9_conjuncts 24 = .ok (.aload_n 0, 1) := by decide +kernel
theorem dX9_conjuncts_25 : decode cX9_conjuncts 25 = .ok (.getfield 7, 3) := by decide +kernel
theorem dX9_conjuncts_28 : decode cX9_conjuncts 28 = .ok (.iload_n 1, 1) := by decide +kernel
theorem dX9_conjuncts_29 : decode cX9_conjuncts 29 = .ok (.iaload, 1) := by decide +kernel
theorem dX9_conjuncts_30 : decode cX9_conjuncts 30 = .ok (.iconst 1, 1) := by decide +kernel
theorem dX9_conjuncts_31 : decode cX9_conjuncts 31 = .ok (.isub, 1) := by decide +kernel
theorem dX9_conjuncts_32 : decode cX9_conjuncts 32 = .ok (.iastore, 1) := by decide +kernel
theorem dX9_conjuncts_33 : decode cX9_conjuncts 33 = .ok (.iconst 1, 1) := by decide +kernel
theorem dX9_conjuncts_34 : decode cX9_conjuncts 34 = .ok (.istore_n 3, 1) := by decide +kernel
theorem dX9_conjuncts_35 : decode cX9_conjuncts 35 = .ok (.iload_n 3, 1) := by decide +kernel
theorem dX9_conjuncts_36 : decode cX9_conjuncts 36 = .ok (.ifCond .le 77, 3) := by decide +kernel
theorem dX9_conjuncts_39 : decode cX9_conjuncts 39 = .ok (.iinc 3 (-1), 3) := by decide +kernel
theorem dX9_conjuncts_42 : decode cX9_conjuncts 42 = .ok (.aload_n 0, 1) := by decide +kernel
theorem dX9_conjuncts_43 : decode cX9_conjuncts 43 = .ok (.getfield 65, 3) := by decide +kernel
theorem dX9_conjuncts_46 : decode cX9_conjuncts 46 = .ok (.iload_n 3, 1) := by decide +kernel
theorem dX9_conjuncts_47 : decode cX9_conjuncts 47 = .ok (.iaload, 1) := by decide +kernel
theorem dX9_conjuncts_48 : decode cX9_conjuncts 48 = .ok (.istore 4, 2) := by decide +kernel
theorem dX9_conjuncts_50 : decode cX9_conjuncts 50 = .ok (.aload_n 0, 1) := by decide +kernel
theorem dX9_conjuncts_51 : decode cX9_conjuncts 51 = .ok (.getfield 13, 3) := by decide +kernel
theorem dX9_conjuncts_54 : decode cX9_conjuncts 54 = .ok (.bipush 15, 2) := by decide +kernel
theorem dX9_conjuncts_56 : decode cX9_conjuncts 56 = .ok (.iload_n 1, 1) := by decide +kernel
theorem dX9_conjuncts_57 : decode cX9_conjuncts 57 = .ok (.imul, 1) := by decide +kernel
theorem dX9_conjuncts_58 : decode cX9_conjuncts 58 = .ok (.iload 4, 2) := by decide +kernel
theorem dX9_conjuncts_60 : decode cX9_conjuncts 60 = .ok (.iadd, 1) := by decide +kernel
theorem dX9_conjuncts_61 : decode cX9_conjuncts 61 = .ok (.iaload, 1) := by decide +kernel
theorem dX9_conjuncts_62 : decode cX9_conjuncts 62 = .ok (.bipush 9, 2) := by decide +kernel
theorem dX9_conjuncts_64 : decode cX9_conjuncts 64 = .ok (.if_icmp .ne 38, 3) := by decide +kernel
theorem dX9_conjuncts_67 : decode cX9_conjuncts 67 = .ok (.aload_n 0, 1) := by decide +kernel
theorem dX9_conjuncts_68 : decode cX9_conjuncts 68 = .ok (.getfield 65, 3) := by decide +kernel
theorem dX9_conjuncts_71 : decode cX9_conjuncts 71 = .ok (.iload_n 3, 1) := by decide +kernel
theorem dX9_conjuncts_72 : decode cX9_conjuncts 72 = .ok (.iload 4, 2) := by decide +kernel
theorem dX9_conjuncts_74 : decode cX9_conjuncts 74 = .ok (.iconst 1, 1) := by decide +kernel
theorem dX9_conjuncts_75 : decode cX9_conjuncts 75 = .ok (.isub, 1) := by decide +kernel
theorem dX9_conjuncts_76 : decode cX9_conjuncts 76 = .ok (.iastore, 1) := by decide +kernel
theorem dX9_conjuncts_77 : decode cX9_conjuncts 77 = .ok (.aload_n 0, 1) := by decide +kernel
theorem dX9_conjuncts_78 : decode cX9_conjuncts 78 = .ok (.getfield 65, 3) := by decide +kernel
theorem dX9_conjuncts_81 : decode cX9_conjuncts 81 = .ok (.iload_n 3, 1) := by decide +kernel
theorem dX9_conjuncts_82 : decode cX9_conjuncts 82 = .ok (.iconst 1, 1) := by decide +kernel
theorem dX9_conjuncts_83 : decode cX9_conjuncts 83 = .ok (.iadd, 1) := by decide +kernel
theorem dX9_conjuncts_84 : decode cX9_conjuncts 84 = .ok (.aload_n 0, 1) := by decide +kernel
theorem dX9_conjuncts_85 : decode cX9_conjuncts 85 = .ok (.iload_n 1, 1) := by decide +kernel
theorem dX9_conjuncts_86 : decode cX9_conjuncts 86 = .ok (.iload 4, 2) := by decide +kernel
theorem dX9_conjuncts_88 : decode cX9_conjuncts 88 = .ok (.iconst 1, 1) := by decide +kernel
theorem dX9_conjuncts_89 : decode cX9_conjuncts 89 = .ok (.isub, 1) := by decide +kernel
theorem dX9_conjuncts_90 : decode cX9_conjuncts 90 = .ok (.invokevirtual 220, 3) := by decide +kernel
theorem dX9_conjuncts_93 : decode cX9_conjuncts 93 = .ok (.iconst 1, 1) := by decide +kernel
theorem dX9_conjuncts_94 : decode cX9_conjuncts 94 = .ok (.isub, 1) := by decide +kernel
theorem dX9_conjuncts_95 : decode cX9_conjuncts 95 = .ok (.iastore, 1) := by decide +kernel
theorem dX9_conjuncts_96 : decode cX9_conjuncts 96 = .ok (.iinc 3 2, 3) := by decide +kernel
theorem dX9_conjuncts_99 : decode cX9_conjuncts 99 = .ok (.goto 11, 3) := by decide +kernel
theorem dX9_conjuncts_102 : decode cX9_conjuncts 102 = .ok (.aload_n 0, 1) := by decide +kernel
theorem dX9_conjuncts_103 : decode cX9_conjuncts 103 = .ok (.iload_n 1, 1) := by decide +kernel
theorem dX9_conjuncts_104 : decode cX9_conjuncts 104 = .ok (.iload 4, 2) := by decide +kernel
theorem dX9_conjuncts_106 : decode cX9_conjuncts 106 = .ok (.iload_n 2, 1) := by decide +kernel
theorem dX9_conjuncts_107 : decode cX9_conjuncts 107 = .ok (.invokevirtual 235, 3) := by decide +kernel
theorem dX9_conjuncts_110 : decode cX9_conjuncts 110 = .ok (.goto (-75), 3) := by decide +kernel
theorem dX9_conjuncts_113 : decode cX9_conjuncts 113 = .ok (.return_, 1) := by decide +kernel
theorem dX9_query_0 : decode cX9_query 0 = .ok (.aload_n 0, 1) := by decide +kernel
theorem dX9_query_1 : decode cX9_query 1 = .ok (.iload_n 1, 1) := by decide +kernel
theorem dX9_query_2 : decode cX9_query 2 = .ok (.invokevirtual 123, 3) := by decide +kernel
theorem dX9_query_5 : decode cX9_query 5 = .ok (.ifCond .eq 24, 3) := by decide +kernel
theorem dX9_query_8 : decode cX9_query 8 = .ok (.aload_n 0, 1) := by decide +kernel
theorem dX9_query_9 : decode cX9_query 9 = .ok (.getfield 85, 3) := by decide +kernel
theorem dX9_query_12 : decode cX9_query 12 = .ok (.ifCond .eq 17, 3) := by decide +kernel
theorem dX9_query_15 : decode cX9_query 15 = .ok (.aload_n 0, 1) := by decide +kernel
theorem dX9_query_16 : decode cX9_query 16 = .ok (.getfield 19, 3) := by decide +kernel
theorem dX9_query_19 : decode cX9_query 19 = .ok (.aload_n 0, 1) := by decide +kernel
theorem dX9_query_20 : decode cX9_query 20 = .ok (.getfield 85, 3) := by decide +kernel
theorem dX9_query_23 : decode cX9_query 23 = .ok (.iconst 1, 1) := by decide +kernel
theorem dX9_query_24 : decode cX9_query 24 = .ok (.isub, 1) := by decide +kernel
theorem dX9_query_25 : decode cX9_query 25 = .ok (.baload, 1) := by decide +kernel
theorem dX9_query_26 : decode cX9_query 26 = .ok (.ifCond .ne 5, 3) := by decide +kernel
theorem dX9_query_29 : decode cX9_query 29 = .ok (.iconst (-1), 1) := by decide +kernel
theorem dX9_query_30 : decode cX9_query 30 = .ok (.ireturn, 1) := by decide +kernel
theorem dX9_query_31 : decode cX9_query 31 = .ok (.aload_n 0, 1) := by decide +kernel
theorem dX9_query_32 : decode cX9_query 32 = .ok (.getfield 85, 3) := by decide +kernel
theorem dX9_query_35 : decode cX9_query 35 = .ok (.iconst 1, 1) := by decide +kernel
theorem dX9_query_36 : decode cX9_query 36 = .ok (.isub, 1) := by decide +kernel
theorem dX9_query_37 : decode cX9_query 37 = .ok (.istore_n 2, 1) := by decide +kernel
theorem dX9_query_38 : decode cX9_query 38 = .ok (.aload_n 0, 1) := by decide +kernel
theorem dX9_query_39 : decode cX9_query 39 = .ok (.iconst (-1), 1) := by decide +kernel
theorem dX9_query_40 : decode cX9_query 40 = .ok (.putfield 71, 3) := by decide +kernel
theorem dX9_query_43 : decode cX9_query 43 = .ok (.aload_n 0, 1) := by decide +kernel
theorem dX9_query_44 : decode cX9_query 44 = .ok (.lconst 0, 1) := by decide +kernel
theorem dX9_query_45 : decode cX9_query 45 = .ok (.putfield 239, 3) := by decide +kernel
theorem dX9_query_48 : decode cX9_query 48 = .ok (.aload_n 0, 1) := by decide +kernel
theorem dX9_query_49 : decode cX9_query 49 = .ok (.lconst 0, 1) := by decide +kernel
theorem dX9_query_50 : decode cX9_query 50 = .ok (.putfield 242, 3) := by decide +kernel
theorem dX9_query_53 : decode cX9_query 53 = .ok (.iconst 0, 1) := by decide +kernel
theorem dX9_query_54 : decode cX9_query 54 = .ok (.istore_n 3, 1) := by decide +kernel
theorem dX9_query_55 : decode cX9_query 55 = .ok (.iload_n 3, 1) := by decide +kernel
theorem dX9_query_56 : decode cX9_query 56 = .ok (.aload_n 0, 1) := by decide +kernel
theorem dX9_query_57 : decode cX9_query 57 = .ok (.getfield 100, 3) := by decide +kernel
theorem dX9_query_60 : decode cX9_query 60 = .ok (.if_icmp .ge 72, 3) := by decide +kernel
theorem dX9_query_63 : decode cX9_query 63 = .ok (.aload_n 0, 1) := by decide +kernel
theorem dX9_query_64 : decode cX9_query 64 = .ok (.iload_n 2, 1) := by decide +kernel
theorem dX9_query_65 : decode cX9_query 65 = .ok (.iload_n 3, 1) := by decide +kernel
theorem dX9_query_66 : decode cX9_query 66 = .ok (.invokevirtual 245, 3) := by decide +kernel
theorem dX9_query_69 : decode cX9_query 69 = .ok (.aload_n 0, 1) := by decide +kernel
theorem dX9_query_70 : decode cX9_query 70 = .ok (.getfield 209, 3) := by decide +kernel
theorem dX9_query_73 : decode cX9_query 73 = .ok (.ifCond .eq 53, 3) := by decide +kernel
theorem dX9_query_76 : decode cX9_query 76 = .ok (.aload_n 0, 1) := by decide +kernel
theorem dX9_query_77 : decode cX9_query 77 = .ok (.getfield 71, 3) := by decide +kernel
theorem dX9_query_80 : decode cX9_query 80 = .ok (.ifCond .lt 25, 3) := by decide +kernel
theorem dX9_query_83 : decode cX9_query 83 = .ok (.aload_n 0, 1) := by decide +kernel
theorem dX9_query_84 : decode cX9_query 84 = .ok (.getfield 217, 3) := by decide +kernel
theorem dX9_query_87 : decode cX9_query 87 = .ok (.aload_n 0, 1) := by decide +kernel
theorem dX9_query_88 : decode cX9_query 88 = .ok (.getfield 213, 3) := by decide +kernel
theorem dX9_query_91 : decode cX9_query 91 = .ok (.lsub, 1) := by decide +kernel
theorem dX9_query_92 : decode cX9_query 92 = .ok (.aload_n 0, 1) := by decide +kernel
theorem dX9_query_93 : decode cX9_query 93 = .ok (.getfield 242, 3) := by decide +kernel
theorem dX9_query_96 : decode cX9_query 96 = .ok (.aload_n 0, 1) := by decide +kernel
theorem dX9_query_97 : decode cX9_query 97 = .ok (.getfield 239, 3) := by decide +kernel
theorem dX9_query_100 : decode cX9_query 100 = .ok (.lsub, 1) := by decide +kernel
theorem dX9_query_101 : decode cX9_query 101 = .ok (.lcmp, 1) := by decide +kernel
theorem dX9_query_102 : decode cX9_query 102 = .ok (.ifCond .ge 24, 3) := by decide +kernel
theorem dX9_query_105 : decode cX9_query 105 = .ok (.aload_n 0, 1) := by decide +kernel
theorem dX9_query_106 : decode cX9_query 106 = .ok (.iload_n 3, 1) := by decide +kernel
theorem dX9_query_107 : decode cX9_query 107 = .ok (.putfield 71, 3) := by decide +kernel
theorem dX9_query_110 : decode cX9_query 110 = .ok (.aload_n 0, 1) := by decide +kernel
theorem dX9_query_111 : decode cX9_query 111 = .ok (.aload_n 0, 1) := by decide +kernel
theorem dX9_query_112 : decode cX9_query 112 = .ok (.getfield 213, 3) := by decide +kernel
theorem dX9_query_115 : decode cX9_query 115 = .ok (.putfield 239, 3) := by decide +kernel
theorem dX9_query_118 : decode cX9_query 118 = .ok (.aload_n 0, 1) := by decide +kernel
theorem dX9_query_119 : decode cX9_query 119 = .ok (.aload_n 0, 1) := by decide +kernel
theorem dX9_query_120 : decode cX9_query 120 = .ok (.getfield 217, 3) := by decide +kernel
theorem dX9_query_123 : decode cX9_query 123 = .ok (.putfield 242, 3) := by decide +kernel
theorem dX9_query_126 : decode cX9_query 126 = .ok (.iinc 3 1, 3) := by decide +kernel
theorem dX9_query_129 : decode cX9_query 129 = .ok (.goto (-74), 3) := by decide +kernel
theorem dX9_query_132 : decode cX9_query 132 = .ok (.aload_n 0, 1) := by decide +kernel
theorem dX9_query_133 : decode cX9_query 133 = .ok (.iconst 0, 1) := by decide +kernel
theorem dX9_query_134 : decode cX9_query 134 = .ok (.putfield 249, 3) := by decide +kernel
theorem dX9_query_137 : decode cX9_query 137 = .ok (.iconst 0, 1) := by decide +kernel
theorem dX9_query_138 : decode cX9_query 138 = .ok (.istore_n 3, 1) := by decide +kernel
theorem dX9_query_139 : decode cX9_query 139 = .ok (.iload_n 3, 1) := by decide +kernel
theorem dX9_query_140 : decode cX9_query 140 = .ok (.aload_n 0, 1) := by decide +kernel
theorem dX9_query_141 : decode cX9_query 141 = .ok (.getfield 106, 3) := by decide +kernel
theorem dX9_query_144 : decode cX9_query 144 = .ok (.if_icmp .ge 145, 3) := by decide +kernel
theorem dX9_query_147 : decode cX9_query 147 = .ok (.aload_n 0, 1) := by decide +kernel
theorem dX9_query_148 : decode cX9_query 148 = .ok (.getfield 71, 3) := by decide +kernel
theorem dX9_query_151 : decode cX9_query 151 = .ok (.ifCond .ge 20, 3) := by decide +kernel
theorem dX9_query_154 : decode cX9_query 154 = .ok (.aload_n 0, 1) := by decide +kernel
theorem dX9_query_155 : decode cX9_query 155 = .ok (.getfield 23, 3) := by decide +kernel
theorem dX9_query_158 : decode cX9_query 158 = .ok (.iload_n 3, 1) := by decide +kernel
theorem dX9_query_159 : decode cX9_query 159 = .ok (.iaload, 1) := by decide +kernel
theorem dX9_query_160 : decode cX9_query 160 = .ok (.ifCond .ne 7, 3) := by decide +kernel
theorem dX9_query_163 : decode cX9_query 163 = .ok (.iconst 1, 1) := by decide +kernel
theorem dX9_query_164 : decode cX9_query 164 = .ok (.goto 57, 3) := by decide +kernel
theorem dX9_query_167 : decode cX9_query 167 = .ok (.iconst 0, 1) := by decide +kernel
theorem dX9_query_168 : decode cX9_query 168 = .ok (.goto 53, 3) := by decide +kernel
theorem dX9_query_171 : decode cX9_query 171 = .ok (.aload_n 0, 1) := by decide +kernel
theorem dX9_query_172 : decode cX9_query 172 = .ok (.getfield 23, 3) := by decide +kernel
theorem dX9_query_175 : decode cX9_query 175 = .ok (.iload_n 3, 1) := by decide +kernel
theorem dX9_query_176 : decode cX9_query 176 = .ok (.iaload, 1) := by decide +kernel
theorem dX9_query_177 : decode cX9_query 177 = .ok (.aload_n 0, 1) := by decide +kernel
theorem dX9_query_178 : decode cX9_query 178 = .ok (.getfield 71, 3) := by decide +kernel
theorem dX9_query_181 : decode cX9_query 181 = .ok (.iconst 1, 1) := by decide +kernel
theorem dX9_query_182 : decode cX9_query 182 = .ok (.iadd, 1) := by decide +kernel
theorem dX9_query_183 : decode cX9_query 183 = .ok (.if_icmp .ne 37, 3) := by decide +kernel
theorem dX9_query_186 : decode cX9_query 186 = .ok (.aload_n 0, 1) := by decide +kernel
theorem dX9_query_187 : decode cX9_query 187 = .ok (.getfield 26, 3) := by decide +kernel
theorem dX9_query_190 : decode cX9_query 190 = .ok (.iload_n 3, 1) := by decide +kernel
theorem dX9_query_191 : decode cX9_query 191 = .ok (.iaload, 1) := by decide +kernel
theorem dX9_query_192 : decode cX9_query 192 = .ok (.i2l, 1) := by decide +kernel
theorem dX9_query_193 : decode cX9_query 193 = .ok (.aload_n 0, 1) := by decide +kernel
theorem dX9_query_194 : decode cX9_query 194 = .ok (.getfield 239, 3) := by decide +kernel
theorem dX9_query_197 : decode cX9_query 197 = .ok (.lcmp, 1) := by decide +kernel
theorem dX9_query_198 : decode cX9_query 198 = .ok (.ifCond .lt 22, 3) := by decide +kernel
theorem dX9_query_201 : decode cX9_query 201 = .ok (.aload_n 0, 1) := by decide +kernel
theorem dX9_query_202 : decode cX9_query 202 = .ok (.getfield 26, 3) := by decide +kernel
theorem dX9_query_205 : decode cX9_query 205 = .ok (.iload_n 3, 1) := by decide +kernel
theorem dX9_query_206 : decode cX9_query 206 = .ok (.iaload, 1) := by decide +kernel
theorem dX9_query_207 : decode cX9_query 207 = .ok (.i2l, 1) := by decide +kernel
theorem dX9_query_208 : decode cX9_query 208 = .ok (.aload_n 0, 1) := by decide +kernel
theorem dX9_query_209 : decode cX9_query 209 = .ok (.getfield 242, 3) := by decide +kernel
theorem dX9_query_212 : decode cX9_query 212 = .ok (.lcmp, 1) := by decide +kernel
theorem dX9_query_213 : decode cX9_query 213 = .ok (.ifCond .gt 7, 3) := by decide +kernel
theorem dX9_query_216 : decode cX9_query 216 = .ok (.iconst 1, 1) := by decide +kernel
theorem dX9_query_217 : decode cX9_query 217 = .ok (.goto 4, 3) := by decide +kernel
theorem dX9_query_220 : decode cX9_query 220 = .ok (.iconst 0, 1) := by decide +kernel
theorem dX9_query_221 : decode cX9_query 221 = .ok (.istore 4, 2) := by decide +kernel
theorem dX9_query_223 : decode cX9_query 223 = .ok (.aload_n 0, 1) := by decide +kernel
theorem dX9_query_224 : decode cX9_query 224 = .ok (.dup, 1) := by decide +kernel
theorem dX9_query_225 : decode cX9_query 225 = .ok (.getfield 249, 3) := by decide +kernel
theorem dX9_query_228 : decode cX9_query 228 = .ok (.iload 4, 2) := by decide +kernel
theorem dX9_query_230 : decode cX9_query 230 = .ok (.ifCond .eq 48, 3) := by decide +kernel
theorem dX9_query_233 : decode cX9_query 233 = .ok (.aload_n 0, 1) := by decide +kernel
theorem dX9_query_234 : decode cX9_query 234 = .ok (.getfield 35, 3) := by decide +kernel
theorem dX9_query_237 : decode cX9_query 237 = .ok (.iload_n 3, 1) := by decide +kernel
theorem dX9_query_238 : decode cX9_query 238 = .ok (.baload, 1) := by decide +kernel
theorem dX9_query_239 : decode cX9_query 239 = .ok (.ifCond .eq 39, 3) := by decide +kernel
theorem dX9_query_242 : decode cX9_query 242 = .ok (.aload_n 0, 1) := by decide +kernel
theorem dX9_query_243 : decode cX9_query 243 = .ok (.aload_n 0, 1) := by decide +kernel
theorem dX9_query_244 : decode cX9_query 244 = .ok (.getfield 23, 3) := by decide +kernel
theorem dX9_query_247 : decode cX9_query 247 = .ok (.iload_n 3, 1) := by decide +kernel
theorem dX9_query_248 : decode cX9_query 248 = .ok (.iaload, 1) := by decide +kernel
theorem dX9_query_249 : decode cX9_query 249 = .ok (.aload_n 0, 1) := by decide +kernel
theorem dX9_query_250 : decode cX9_query 250 = .ok (.getfield 26, 3) := by decide +kernel
theorem dX9_query_253 : decode cX9_query 253 = .ok (.iload_n 3, 1) := by decide +kernel
theorem dX9_query_254 : decode cX9_query 254 = .ok (.iaload, 1) := by decide +kernel
theorem dX9_query_255 : decode cX9_query 255 = .ok (.aload_n 0, 1) := by decide +kernel
theorem dX9_query_256 : decode cX9_query 256 = .ok (.getfield 29, 3) := by decide +kernel
theorem dX9_query_259 : decode cX9_query 259 = .ok (.iload_n 3, 1) := by decide +kernel
theorem dX9_query_260 : decode cX9_query 260 = .ok (.iaload, 1) := by decide +kernel
theorem dX9_query_261 : decode cX9_query 261 = .ok (.aload_n 0, 1) := by decide +kernel
theorem dX9_query_262 : decode cX9_query 262 = .ok (.getfield 53, 3) := by decide +kernel
theorem dX9_query_265 : decode cX9_query 265 = .ok (.iload_n 1, 1) := by decide +kernel
theorem dX9_query_266 : decode cX9_query 266 = .ok (.iaload, 1) := by decide +kernel
theorem dX9_query_267 : decode cX9_query 267 = .ok (.invokevirtual 109, 3) := by decide +kernel
theorem dX9_query_270 : decode cX9_query 270 = .ok (.iload_n 3, 1) := by decide +kernel
theorem dX9_query_271 : decode cX9_query 271 = .ok (.if_icmp .ne 7, 3) := by decide +kernel
theorem dX9_query_274 : decode cX9_query 274 = .ok (.iconst 1, 1) := by decide +kernel
theorem dX9_query_275 : decode cX9_query 275 = .ok (.goto 4, 3) := by decide +kernel
theorem dX9_query_278 : decode cX9_query 278 = .ok (.iconst 0, 1) := by decide +kernel
theorem dX9_query_279 : decode cX9_query 279 = .ok (.iadd, 1) := by decide +kernel
theorem dX9_query_280 : decode cX9_query 280 = .ok (.putfield 249, 3) := by decide +kernel
theorem dX9_query_283 : decode cX9_query 283 = .ok (.iinc 3 1, 3) := by decide +kernel
theorem dX9_query_286 : decode cX9_query 286 = .ok (.goto (-147), 3) := by decide +kernel
theorem dX9_query_289 : decode cX9_query 289 = .ok (.aload_n 0, 1) := by decide +kernel
theorem dX9_query_290 : decode cX9_query 290 = .ok (.iconst 0, 1) := by decide +kernel
theorem dX9_query_291 : decode cX9_query 291 = .ok (.putfield 252, 3) := by decide +kernel
theorem dX9_query_294 : decode cX9_query 294 = .ok (.iconst 0, 1) := by decide +kernel
theorem dX9_query_295 : decode cX9_query 295 = .ok (.istore_n 3, 1) := by decide +kernel
theorem dX9_query_296 : decode cX9_query 296 = .ok (.iload_n 3, 1) := by decide +kernel
theorem dX9_query_297 : decode cX9_query 297 = .ok (.bipush 32, 2) := by decide +kernel
theorem dX9_query_299 : decode cX9_query 299 = .ok (.if_icmp .ge 47, 3) := by decide +kernel
theorem dX9_query_302 : decode cX9_query 302 = .ok (.aload_n 0, 1) := by decide +kernel
theorem dX9_query_303 : decode cX9_query 303 = .ok (.iload_n 1, 1) := by decide +kernel
theorem dX9_query_304 : decode cX9_query 304 = .ok (.iload_n 3, 1) := by decide +kernel
theorem dX9_query_305 : decode cX9_query 305 = .ok (.invokevirtual 129, 3) := by decide +kernel
theorem dX9_query_308 : decode cX9_query 308 = .ok (.ifCond .eq 32, 3) := by decide +kernel
theorem dX9_query_311 : decode cX9_query 311 = .ok (.aload_n 0, 1) := by decide +kernel
theorem dX9_query_312 : decode cX9_query 312 = .ok (.iload_n 2, 1) := by decide +kernel
theorem dX9_query_313 : decode cX9_query 313 = .ok (.invokevirtual 132, 3) := by decide +kernel
theorem dX9_query_316 : decode cX9_query 316 = .ok (.iconst 1, 1) := by decide +kernel
theorem dX9_query_317 : decode cX9_query 317 = .ok (.if_icmp .ne 23, 3) := by decide +kernel
theorem dX9_query_320 : decode cX9_query 320 = .ok (.aload_n 0, 1) := by decide +kernel
theorem dX9_query_321 : decode cX9_query 321 = .ok (.getfield 68, 3) := by decide +kernel
theorem dX9_query_324 : decode cX9_query 324 = .ok (.aload_n 0, 1) := by decide +kernel
theorem dX9_query_325 : decode cX9_query 325 = .ok (.getfield 252, 3) := by decide +kernel
theorem dX9_query_328 : decode cX9_query 328 = .ok (.iload_n 3, 1) := by decide +kernel
theorem dX9_query_329 : decode cX9_query 329 = .ok (.iastore, 1) := by decide +kernel
theorem dX9_query_330 : decode cX9_query 330 = .ok (.aload_n 0, 1) := by decide +kernel
theorem dX9_query_331 : decode cX9_query 331 = .ok (.dup, 1) := by decide +kernel
theorem dX9_query_332 : decode cX9_query 332 = .ok (.getfield 252, 3) := by decide +kernel
theorem dX9_query_335 : decode cX9_query 335 = .ok (.iconst 1, 1) := by decide +kernel
theorem dX9_query_336 : decode cX9_query 336 = .ok (.iadd, 1) := by decide +kernel
theorem dX9_query_337 : decode cX9_query 337 = .ok (.putfield 252, 3) := by decide +kernel
theorem dX9_query_340 : decode cX9_query 340 = .ok (.iinc 3 1, 3) := by decide +kernel
theorem dX9_query_343 : decode cX9_query 343 = .ok (.goto (-47), 3) := by decide +kernel
theorem dX9_query_346 : decode cX9_query 346 = .ok (.aload_n 0, 1) := by decide +kernel
theorem dX9_query_347 : decode cX9_query 347 = .ok (.dup, 1) := by decide +kernel
theorem dX9_query_348 : decode cX9_query 348 = .ok (.getfield 85, 3) := by decide +kernel
theorem dX9_query_351 : decode cX9_query 351 = .ok (.iconst 1, 1) := by decide +kernel
theorem dX9_query_352 : decode cX9_query 352 = .ok (.isub, 1) := by decide +kernel
theorem dX9_query_353 : decode cX9_query 353 = .ok (.putfield 85, 3) := by decide +kernel
theorem dX9_query_356 : decode cX9_query 356 = .ok (.aload_n 0, 1) := by decide +kernel
theorem dX9_query_357 : decode cX9_query 357 = .ok (.getfield 252, 3) := by decide +kernel
theorem dX9_query_360 : decode cX9_query 360 = .ok (.ireturn, 1) := by decide +kernel
theorem dX9_result_0 : decode cX9_result 0 = .ok (.iload_n 1, 1) := by decide +kernel
theorem dX9_result_1 : decode cX9_result 1 = .ok (.ifCond .lt 20, 3) := by decide +kernel
theorem dX9_result_4 : decode cX9_result 4 = .ok (.iload_n 1, 1) := by decide +kernel
theorem dX9_result_5 : decode cX9_result 5 = .ok (.aload_n 0, 1) := by decide +kernel
theorem dX9_result_6 : decode cX9_result 6 = .ok (.getfield 252, 3) := by decide +kernel
theorem dX9_result_9 : decode cX9_result 9 = .ok (.if_icmp .ge 12, 3) := by decide +kernel
theorem dX9_result_12 : decode cX9_result 12 = .ok (.aload_n 0, 1) := by decide +kernel
theorem dX9_result_13 : decode cX9_result 13 = .ok (.getfield 68, 3) := by decide +kernel
theorem dX9_result_16 : decode cX9_result 16 = .ok (.iload_n 1, 1) := by decide +kernel
theorem dX9_result_17 : decode cX9_result 17 = .ok (.iaload, 1) := by decide +kernel
theorem dX9_result_18 : decode cX9_result 18 = .ok (.goto 4, 3) := by decide +kernel
theorem dX9_result_21 : decode cX9_result 21 = .ok (.iconst (-1), 1) := by decide +kernel
theorem dX9_result_22 : decode cX9_result 22 = .ok (.ireturn, 1) := by decide +kernel
theorem dX9_plan_0 : decode cX9_plan 0 = .ok (.iload_n 1, 1) := by decide +kernel
theorem dX9_plan_1 : decode cX9_plan 1 = .ok (.ifCond .lt 8, 3) := by decide +kernel
theorem dX9_plan_4 : decode cX9_plan 4 = .ok (.iload_n 1, 1) := by decide +kernel
theorem dX9_plan_5 : decode cX9_plan 5 = .ok (.iconst 3, 1) := by decide +kernel
theorem dX9_plan_6 : decode cX9_plan 6 = .ok (.if_icmp .le 7, 3) := by decide +kernel
theorem dX9_plan_9 : decode cX9_plan 9 = .ok (.ldc2_w 255, 3) := by decide +kernel
theorem dX9_plan_12 : decode cX9_plan 12 = .ok (.lreturn, 1) := by decide +kernel
theorem dX9_plan_13 : decode cX9_plan 13 = .ok (.iload_n 1, 1) := by decide +kernel
theorem dX9_plan_14 : decode cX9_plan 14 = .ok (.ifCond .ne 11, 3) := by decide +kernel
theorem dX9_plan_17 : decode cX9_plan 17 = .ok (.aload_n 0, 1) := by decide +kernel
theorem dX9_plan_18 : decode cX9_plan 18 = .ok (.getfield 71, 3) := by decide +kernel
theorem dX9_plan_21 : decode cX9_plan 21 = .ok (.i2l, 1) := by decide +kernel
theorem dX9_plan_22 : decode cX9_plan 22 = .ok (.goto 32, 3) := by decide +kernel
theorem dX9_plan_25 : decode cX9_plan 25 = .ok (.iload_n 1, 1) := by decide +kernel
theorem dX9_plan_26 : decode cX9_plan 26 = .ok (.iconst 1, 1) := by decide +kernel
theorem dX9_plan_27 : decode cX9_plan 27 = .ok (.if_icmp .ne 11, 3) := by decide +kernel
theorem dX9_plan_30 : decode cX9_plan 30 = .ok (.aload_n 0, 1) := by decide +kernel
theorem dX9_plan_31 : decode cX9_plan 31 = .ok (.getfield 249, 3) := by decide +kernel
theorem dX9_plan_34 : decode cX9_plan 34 = .ok (.i2l, 1) := by decide +kernel
theorem dX9_plan_35 : decode cX9_plan 35 = .ok (.goto 19, 3) := by decide +kernel
theorem dX9_plan_38 : decode cX9_plan 38 = .ok (.iload_n 1, 1) := by decide +kernel
theorem dX9_plan_39 : decode cX9_plan 39 = .ok (.iconst 2, 1) := by decide +kernel
theorem dX9_plan_40 : decode cX9_plan 40 = .ok (.if_icmp .ne 10, 3) := by decide +kernel
theorem dX9_plan_43 : decode cX9_plan 43 = .ok (.aload_n 0, 1) := by decide +kernel
theorem dX9_plan_44 : decode cX9_plan 44 = .ok (.getfield 239, 3) := by decide +kernel
theorem dX9_plan_47 : decode cX9_plan 47 = .ok (.goto 7, 3) := by decide +kernel
theorem dX9_plan_50 : decode cX9_plan 50 = .ok (.aload_n 0, 1) := by decide +kernel
theorem dX9_plan_51 : decode cX9_plan 51 = .ok (.getfield 242, 3) := by decide +kernel
theorem dX9_plan_54 : decode cX9_plan 54 = .ok (.lreturn, 1) := by decide +kernel
theorem dX9_state_0 : decode cX9_state 0 = .ok (.iload_n 1, 1) := by decide +kernel
theorem dX9_state_1 : decode cX9_state 1 = .ok (.ifCond .lt 20, 3) := by decide +kernel
theorem dX9_state_4 : decode cX9_state 4 = .ok (.iload_n 1, 1) := by decide +kernel
theorem dX9_state_5 : decode cX9_state 5 = .ok (.aload_n 0, 1) := by decide +kernel
theorem dX9_state_6 : decode cX9_state 6 = .ok (.getfield 116, 3) := by decide +kernel
theorem dX9_state_9 : decode cX9_state 9 = .ok (.if_icmp .ge 12, 3) := by decide +kernel
theorem dX9_state_12 : decode cX9_state 12 = .ok (.aload_n 0, 1) := by decide +kernel
theorem dX9_state_13 : decode cX9_state 13 = .ok (.getfield 50, 3) := by decide +kernel
theorem dX9_state_16 : decode cX9_state 16 = .ok (.iload_n 1, 1) := by decide +kernel
theorem dX9_state_17 : decode cX9_state 17 = .ok (.iaload, 1) := by decide +kernel
theorem dX9_state_18 : decode cX9_state 18 = .ok (.goto 4, 3) := by decide +kernel
theorem dX9_state_21 : decode cX9_state 21 = .ok (.iconst (-1), 1) := by decide +kernel
theorem dX9_state_22 : decode cX9_state 22 = .ok (.ireturn, 1) := by decide +kernel
theorem dX9_about_0 : decode cX9_about 0 = .ok (.iload_n 1, 1) := by decide +kernel
theorem dX9_about_1 : decode cX9_about 1 = .ok (.tableswitch 111 0 6 #[43, 48, 53, 59, 70, 75, 106], 43) := by decide +kernel
theorem dX9_about_44 : decode cX9_about 44 = .ok (.aload_n 0, 1) := by decide +kernel
theorem dX9_about_45 : decode cX9_about 45 = .ok (.getfield 103, 3) := by decide +kernel
theorem dX9_about_48 : decode cX9_about 48 = .ok (.ireturn, 1) := by decide +kernel
theorem dX9_about_49 : decode cX9_about 49 = .ok (.aload_n 0, 1) := by decide +kernel
theorem dX9_about_50 : decode cX9_about 50 = .ok (.invokevirtual 203, 3) := by decide +kernel
theorem dX9_about_53 : decode cX9_about 53 = .ok (.ireturn, 1) := by decide +kernel
theorem dX9_about_54 : decode cX9_about 54 = .ok (.aload_n 0, 1) := by decide +kernel
theorem dX9_about_55 : decode cX9_about 55 = .ok (.iconst 0, 1) := by decide +kernel
theorem dX9_about_56 : decode cX9_about 56 = .ok (.invokevirtual 152, 3) := by decide +kernel
theorem dX9_about_59 : decode cX9_about 59 = .ok (.ireturn, 1) := by decide +kernel
theorem dX9_about_60 : decode cX9_about 60 = .ok (.aload_n 0, 1) := by decide +kernel
theorem dX9_about_61 : decode cX9_about 61 = .ok (.getfield 106, 3) := by decide +kernel
theorem dX9_about_64 : decode cX9_about 64 = .ok (.aload_n 0, 1) := by decide +kernel
theorem dX9_about_65 : decode cX9_about 65 = .ok (.iconst 0, 1) := by decide +kernel
theorem dX9_about_66 : decode cX9_about 66 = .ok (.invokevirtual 152, 3) := by decide +kernel
theorem dX9_about_69 : decode cX9_about 69 = .ok (.isub, 1) := by decide +kernel
theorem dX9_about_70 : decode cX9_about 70 = .ok (.ireturn, 1) := by decide +kernel
theorem dX9_about_71 : decode cX9_about 71 = .ok (.aload_n 0, 1) := by decide +kernel
theorem dX9_about_72 : decode cX9_about 72 = .ok (.getfield 85, 3) := by decide +kernel
theorem dX9_about_75 : decode cX9_about 75 = .ok (.ireturn, 1) := by decide +kernel
theorem dX9_about_76 : decode cX9_about 76 = .ok (.aload_n 0, 1) := by decide +kernel
theorem dX9_about_77 : decode cX9_about 77 = .ok (.getfield 85, 3) := by decide +kernel
theorem dX9_about_80 : decode cX9_about 80 = .ok (.ifCond .ne 7, 3) := by decide +kernel
theorem dX9_about_83 : decode cX9_about 83 = .ok (.iconst (-1), 1) := by decide +kernel
theorem dX9_about_84 : decode cX9_about 84 = .ok (.goto 22, 3) := by decide +kernel
theorem dX9_about_87 : decode cX9_about 87 = .ok (.aload_n 0, 1) := by decide +kernel
theorem dX9_about_88 : decode cX9_about 88 = .ok (.getfield 19, 3) := by decide +kernel
theorem dX9_about_91 : decode cX9_about 91 = .ok (.aload_n 0, 1) := by decide +kernel
theorem dX9_about_92 : decode cX9_about 92 = .ok (.getfield 85, 3) := by decide +kernel
theorem dX9_about_95 : decode cX9_about 95 = .ok (.iconst 1, 1) := by decide +kernel
theorem dX9_about_96 : decode cX9_about 96 = .ok (.isub, 1) := by decide +kernel
theorem dX9_about_97 : decode cX9_about 97 = .ok (.baload, 1) := by decide +kernel
theorem dX9_about_98 : decode cX9_about 98 = .ok (.ifCond .eq 7, 3) := by decide +kernel
theorem dX9_about_101 : decode cX9_about 101 = .ok (.iconst 1, 1) := by decide +kernel
theorem dX9_about_102 : decode cX9_about 102 = .ok (.goto 4, 3) := by decide +kernel
theorem dX9_about_105 : decode cX9_about 105 = .ok (.iconst 0, 1) := by decide +kernel
theorem dX9_about_106 : decode cX9_about 106 = .ok (.ireturn, 1) := by decide +kernel
theorem dX9_about_107 : decode cX9_about 107 = .ok (.aload_n 0, 1) := by decide +kernel
theorem dX9_about_108 : decode cX9_about 108 = .ok (.getfield 100, 3) := by decide +kernel
theorem dX9_about_111 : decode cX9_about 111 = .ok (.ireturn, 1) := by decide +kernel
theorem dX9_about_112 : decode cX9_about 112 = .ok (.iconst (-1), 1) := by decide +kernel
theorem dX9_about_113 : decode cX9_about 113 = .ok (.ireturn, 1) := by decide +kernel
theorem dX9_file_0 : decode cX9_file 0 = .ok (.iload_n 1, 1) := by decide +kernel
theorem dX9_file_1 : decode cX9_file 1 = .ok (.ifCond .lt 22, 3) := by decide +kernel
theorem dX9_file_4 : decode cX9_file 4 = .ok (.iload_n 1, 1) := by decide +kernel
theorem dX9_file_5 : decode cX9_file 5 = .ok (.iconst 2, 1) := by decide +kernel
theorem dX9_file_6 : decode cX9_file 6 = .ok (.if_icmp .gt 17, 3) := by decide +kernel
theorem dX9_file_9 : decode cX9_file 9 = .ok (.iload_n 2, 1) := by decide +kernel
theorem dX9_file_10 : decode cX9_file 10 = .ok (.ifCond .lt 13, 3) := by decide +kernel
theorem dX9_file_13 : decode cX9_file 13 = .ok (.iload_n 3, 1) := by decide +kernel
theorem dX9_file_14 : decode cX9_file 14 = .ok (.ifCond .lt 9, 3) := by decide +kernel
theorem dX9_file_17 : decode cX9_file 17 = .ok (.iload_n 3, 1) := by decide +kernel
theorem dX9_file_18 : decode cX9_file 18 = .ok (.bipush 7, 2) := by decide +kernel
theorem dX9_file_20 : decode cX9_file 20 = .ok (.if_icmp .le 5, 3) := by decide +kernel
theorem dX9_file_23 : decode cX9_file 23 = .ok (.iconst (-1), 1) := by decide +kernel
theorem dX9_file_24 : decode cX9_file 24 = .ok (.ireturn, 1) := by decide +kernel
theorem dX9_file_25 : decode cX9_file 25 = .ok (.iload_n 2, 1) := by decide +kernel
theorem dX9_file_26 : decode cX9_file 26 = .ok (.istore 4, 2) := by decide +kernel
theorem dX9_file_28 : decode cX9_file 28 = .ok (.iconst 0, 1) := by decide +kernel
theorem dX9_file_29 : decode cX9_file 29 = .ok (.istore 5, 2) := by decide +kernel
theorem dX9_file_31 : decode cX9_file 31 = .ok (.iload 5, 2) := by decide +kernel
theorem dX9_file_33 : decode cX9_file 33 = .ok (.aload_n 0, 1) := by decide +kernel
theorem dX9_file_34 : decode cX9_file 34 = .ok (.getfield 167, 3) := by decide +kernel
theorem dX9_file_37 : decode cX9_file 37 = .ok (.if_icmp .ge 41, 3) := by decide +kernel
theorem dX9_file_40 : decode cX9_file 40 = .ok (.aload_n 0, 1) := by decide +kernel
theorem dX9_file_41 : decode cX9_file 41 = .ok (.getfield 47, 3) := by decide +kernel
theorem dX9_file_44 : decode cX9_file 44 = .ok (.iload 5, 2) := by decide +kernel
theorem dX9_file_46 : decode cX9_file 46 = .ok (.iaload, 1) := by decide +kernel
theorem dX9_file_47 : decode cX9_file 47 = .ok (.iload_n 1, 1) := by decide +kernel
theorem dX9_file_48 : decode cX9_file 48 = .ok (.if_icmp .ne 24, 3) := by decide +kernel
theorem dX9_file_51 : decode cX9_file 51 = .ok (.iload 4, 2) := by decide +kernel
theorem dX9_file_53 : decode cX9_file 53 = .ok (.ifCond .ne 16, 3) := by decide +kernel
theorem dX9_file_56 : decode cX9_file 56 = .ok (.aload_n 0, 1) := by decide +kernel
theorem dX9_file_57 : decode cX9_file 57 = .ok (.aload_n 0, 1) := by decide +kernel
theorem dX9_file_58 : decode cX9_file 58 = .ok (.getfield 44, 3) := by decide +kernel
theorem dX9_file_61 : decode cX9_file 61 = .ok (.iload 5, 2) := by decide +kernel
theorem dX9_file_63 : decode cX9_file 63 = .ok (.iaload, 1) := by decide +kernel
theorem dX9_file_64 : decode cX9_file 64 = .ok (.iload_n 3, 1) := by decide +kernel
theorem dX9_file_65 : decode cX9_file 65 = .ok (.invokevirtual 257, 3) := by decide +kernel
theorem dX9_file_68 : decode cX9_file 68 = .ok (.ireturn, 1) := by decide +kernel
theorem dX9_file_69 : decode cX9_file 69 = .ok (.iinc 4 (-1), 3) := by decide +kernel
theorem dX9_file_72 : decode cX9_file 72 = .ok (.iinc 5 1, 3) := by decide +kernel
theorem dX9_file_75 : decode cX9_file 75 = .ok (.goto (-44), 3) := by decide +kernel
theorem dX9_file_78 : decode cX9_file 78 = .ok (.iconst (-1), 1) := by decide +kernel
theorem dX9_file_79 : decode cX9_file 79 = .ok (.ireturn, 1) := by decide +kernel
theorem dX9_aboutFile_0 : decode cX9_aboutFile 0 = .ok (.iload_n 2, 1) := by decide +kernel
theorem dX9_aboutFile_1 : decode cX9_aboutFile 1 = .ok (.iconst 2, 1) := by decide +kernel
theorem dX9_aboutFile_2 : decode cX9_aboutFile 2 = .ok (.if_icmp .ge 17, 3) := by decide +kernel
theorem dX9_aboutFile_5 : decode cX9_aboutFile 5 = .ok (.iload_n 2, 1) := by decide +kernel
theorem dX9_aboutFile_6 : decode cX9_aboutFile 6 = .ok (.ifCond .ne 7, 3) := by decide +kernel
theorem dX9_aboutFile_9 : decode cX9_aboutFile 9 = .ok (.iload_n 1, 1) := by decide +kernel
theorem dX9_aboutFile_10 : decode cX9_aboutFile 10 = .ok (.goto 8, 3) := by decide +kernel
theorem dX9_aboutFile_13 : decode cX9_aboutFile 13 = .ok (.aload_n 0, 1) := by decide +kernel
theorem dX9_aboutFile_14 : decode cX9_aboutFile 14 = .ok (.iload_n 1, 1) := by decide +kernel
theorem dX9_aboutFile_15 : decode cX9_aboutFile 15 = .ok (.invokevirtual 152, 3) := by decide +kernel
theorem dX9_aboutFile_18 : decode cX9_aboutFile 18 = .ok (.ireturn, 1) := by decide +kernel
theorem dX9_aboutFile_19 : decode cX9_aboutFile 19 = .ok (.aload_n 0, 1) := by decide +kernel
theorem dX9_aboutFile_20 : decode cX9_aboutFile 20 = .ok (.iload_n 1, 1) := by decide +kernel
theorem dX9_aboutFile_21 : decode cX9_aboutFile 21 = .ok (.iload_n 2, 1) := by decide +kernel
theorem dX9_aboutFile_22 : decode cX9_aboutFile 22 = .ok (.iconst 5, 1) := by decide +kernel
theorem dX9_aboutFile_23 : decode cX9_aboutFile 23 = .ok (.if_icmp .ge 7, 3) := by decide +kernel
theorem dX9_aboutFile_26 : decode cX9_aboutFile 26 = .ok (.iconst 1, 1) := by decide +kernel
theorem dX9_aboutFile_27 : decode cX9_aboutFile 27 = .ok (.goto 4, 3) := by decide +kernel
theorem dX9_aboutFile_30 : decode cX9_aboutFile 30 = .ok (.iconst 0, 1) := by decide +kernel
theorem dX9_aboutFile_31 : decode cX9_aboutFile 31 = .ok (.invokevirtual 185, 3) := by decide +kernel
theorem dX9_aboutFile_34 : decode cX9_aboutFile 34 = .ok (.istore_n 3, 1) := by decide +kernel
theorem dX9_aboutFile_35 : decode cX9_aboutFile 35 = .ok (.iload_n 2, 1) := by decide +kernel
theorem dX9_aboutFile_36 : decode cX9_aboutFile 36 = .ok (.iconst 2, 1) := by decide +kernel
theorem dX9_aboutFile_37 : decode cX9_aboutFile 37 = .ok (.isub, 1) := by decide +kernel
theorem dX9_aboutFile_38 : decode cX9_aboutFile 38 = .ok (.iconst 3, 1) := by decide +kernel
theorem dX9_aboutFile_39 : decode cX9_aboutFile 39 = .ok (.irem, 1) := by decide +kernel
theorem dX9_aboutFile_40 : decode cX9_aboutFile 40 = .ok (.istore 4, 2) := by decide +kernel
theorem dX9_aboutFile_42 : decode cX9_aboutFile 42 = .ok (.iload 4, 2) := by decide +kernel
theorem dX9_aboutFile_44 : decode cX9_aboutFile 44 = .ok (.ifCond .ne 12, 3) := by decide +kernel
theorem dX9_aboutFile_47 : decode cX9_aboutFile 47 = .ok (.aload_n 0, 1) := by decide +kernel
theorem dX9_aboutFile_48 : decode cX9_aboutFile 48 = .ok (.getfield 23, 3) := by decide +kernel
theorem dX9_aboutFile_51 : decode cX9_aboutFile 51 = .ok (.iload_n 3, 1) := by decide +kernel
theorem dX9_aboutFile_52 : decode cX9_aboutFile 52 = .ok (.iaload, 1) := by decide +kernel
theorem dX9_aboutFile_53 : decode cX9_aboutFile 53 = .ok (.goto 24, 3) := by decide +kernel
theorem dX9_aboutFile_56 : decode cX9_aboutFile 56 = .ok (.iload 4, 2) := by decide +kernel
theorem dX9_aboutFile_58 : decode cX9_aboutFile 58 = .ok (.iconst 1, 1) := by decide +kernel
theorem dX9_aboutFile_59 : decode cX9_aboutFile 59 = .ok (.if_icmp .ne 12, 3) := by decide +kernel
theorem dX9_aboutFile_62 : decode cX9_aboutFile 62 = .ok (.aload_n 0, 1) := by decide +kernel
theorem dX9_aboutFile_63 : decode cX9_aboutFile 63 = .ok (.getfield 26, 3) := by decide +kernel
theorem dX9_aboutFile_66 : decode cX9_aboutFile 66 = .ok (.iload_n 3, 1) := by decide +kernel
theorem dX9_aboutFile_67 : decode cX9_aboutFile 67 = .ok (.iaload, 1) := by decide +kernel
theorem dX9_aboutFile_68 : decode cX9_aboutFile 68 = .ok (.goto 9, 3) := by decide +kernel
theorem dX9_aboutFile_71 : decode cX9_aboutFile 71 = .ok (.aload_n 0, 1) := by decide +kernel
theorem dX9_aboutFile_72 : decode cX9_aboutFile 72 = .ok (.getfield 29, 3) := by decide +kernel
theorem dX9_aboutFile_75 : decode cX9_aboutFile 75 = .ok (.iload_n 3, 1) := by decide +kernel
theorem dX9_aboutFile_76 : decode cX9_aboutFile 76 = .ok (.iaload, 1) := by decide +kernel
theorem dX9_aboutFile_77 : decode cX9_aboutFile 77 = .ok (.ireturn, 1) := by decide +kernel
