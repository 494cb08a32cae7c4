theorem dX7_init_0 : decode cX7_init 0 = .ok (.aload_n 0, 1) := by decide +kernel
theorem dX7_init_1 : decode cX7_init 1 = .ok (.invokespecial 1, 3) := by decide +kernel
theorem dX7_init_4 : decode cX7_init 4 = .ok (.aload_n 0, 1) := by decide +kernel
theorem dX7_init_5 : decode cX7_init 5 = .ok (.bipush 24, 2) := by decide +kernel
theorem dX7_init_7 : decode cX7_init 7 = .ok (.newarray .int, 2) := by decide +kernel
theorem dX7_init_9 : decode cX7_init 9 = .ok (.putfield 7, 3) := by decide +kernel
theorem dX7_init_12 : decode cX7_init 12 = .ok (.aload_n 0, 1) := by decide +kernel
theorem dX7_init_13 : decode cX7_init 13 = .ok (.bipush 12, 2) := by decide +kernel
theorem dX7_init_15 : decode cX7_init 15 = .ok (.newarray .int, 2) := by decide +kernel
theorem dX7_init_17 : decode cX7_init 17 = .ok (.putfield 13, 3) := by decide +kernel
theorem dX7_init_20 : decode cX7_init 20 = .ok (.aload_n 0, 1) := by decide +kernel
theorem dX7_init_21 : decode cX7_init 21 = .ok (.iconst 4, 1) := by decide +kernel
theorem dX7_init_22 : decode cX7_init 22 = .ok (.newarray .int, 2) := by decide +kernel
theorem dX7_init_24 : decode cX7_init 24 = .ok (.putfield 16, 3) := by decide +kernel
theorem dX7_init_27 : decode cX7_init 27 = .ok (.aload_n 0, 1) := by decide +kernel
theorem dX7_init_28 : decode cX7_init 28 = .ok (.iconst 4, 1) := by decide +kernel
theorem dX7_init_29 : decode cX7_init 29 = .ok (.newarray .int, 2) := by decide +kernel
theorem dX7_init_31 : decode cX7_init 31 = .ok (.putfield 19, 3) := by decide +kernel
theorem dX7_init_34 : decode cX7_init 34 = .ok (.aload_n 0, 1) := by decide +kernel
theorem dX7_init_35 : decode cX7_init 35 = .ok (.bipush 6, 2) := by decide +kernel
theorem dX7_init_37 : decode cX7_init 37 = .ok (.newarray .int, 2) := by decide +kernel
theorem dX7_init_39 : decode cX7_init 39 = .ok (.putfield 22, 3) := by decide +kernel
theorem dX7_init_42 : decode cX7_init 42 = .ok (.aload_n 0, 1) := by decide +kernel
theorem dX7_init_43 : decode cX7_init 43 = .ok (.bipush 6, 2) := by decide +kernel
theorem dX7_init_45 : decode cX7_init 45 = .ok (.newarray .int, 2) := by decide +kernel
theorem dX7_init_47 : decode cX7_init 47 = .ok (.putfield 25, 3) := by decide +kernel
theorem dX7_init_50 : decode cX7_init 50 = .ok (.aload_n 0, 1) := by decide +kernel
theorem dX7_init_51 : decode cX7_init 51 = .ok (.iconst 4, 1) := by decide +kernel
theorem dX7_init_52 : decode cX7_init 52 = .ok (.newarray .int, 2) := by decide +kernel
theorem dX7_init_54 : decode cX7_init 54 = .ok (.putfield 28, 3) := by decide +kernel
theorem dX7_init_57 : decode cX7_init 57 = .ok (.aload_n 0, 1) := by decide +kernel
theorem dX7_init_58 : decode cX7_init 58 = .ok (.bipush 8, 2) := by decide +kernel
theorem dX7_init_60 : decode cX7_init 60 = .ok (.newarray .int, 2) := by decide +kernel
theorem dX7_init_62 : decode cX7_init 62 = .ok (.putfield 31, 3) := by decide +kernel
theorem dX7_init_65 : decode cX7_init 65 = .ok (.aload_n 0, 1) := by decide +kernel
theorem dX7_init_66 : decode cX7_init 66 = .ok (.iconst 4, 1) := by decide +kernel
theorem dX7_init_67 : decode cX7_init 67 = .ok (.newarray .int, 2) := by decide +kernel
theorem dX7_init_69 : decode cX7_init 69 = .ok (.putfield 34, 3) := by decide +kernel
theorem dX7_init_72 : decode cX7_init 72 = .ok (.aload_n 0, 1) := by decide +kernel
theorem dX7_init_73 : decode cX7_init 73 = .ok (.iconst 3, 1) := by decide +kernel
theorem dX7_init_74 : decode cX7_init 74 = .ok (.newarray .int, 2) := by decide +kernel
theorem dX7_init_76 : decode cX7_init 76 = .ok (.putfield 37, 3) := by decide +kernel
theorem dX7_init_79 : decode cX7_init 79 = .ok (.aload_n 0, 1) := by decide +kernel
theorem dX7_init_80 : decode cX7_init 80 = .ok (.iconst 3, 1) := by decide +kernel
theorem dX7_init_81 : decode cX7_init 81 = .ok (.newarray .int, 2) := by decide +kernel
theorem dX7_init_83 : decode cX7_init 83 = .ok (.putfield 40, 3) := by decide +kernel
theorem dX7_init_86 : decode cX7_init 86 = .ok (.aload_n 0, 1) := by decide +kernel
theorem dX7_init_87 : decode cX7_init 87 = .ok (.bipush 18, 2) := by decide +kernel
theorem dX7_init_89 : decode cX7_init 89 = .ok (.newarray .int, 2) := by decide +kernel
theorem dX7_init_91 : decode cX7_init 91 = .ok (.putfield 43, 3) := by decide +kernel
theorem dX7_init_94 : decode cX7_init 94 = .ok (.aload_n 0, 1) := by decide +kernel
theorem dX7_init_95 : decode cX7_init 95 = .ok (.bipush 22, 2) := by decide +kernel
theorem dX7_init_97 : decode cX7_init 97 = .ok (.newarray .int, 2) := by decide +kernel
theorem dX7_init_99 : decode cX7_init 99 = .ok (.putfield 46, 3) := by decide +kernel
theorem dX7_init_102 : decode cX7_init 102 = .ok (.aload_n 0, 1) := by decide +kernel
theorem dX7_init_103 : decode cX7_init 103 = .ok (.bipush 12, 2) := by decide +kernel
theorem dX7_init_105 : decode cX7_init 105 = .ok (.newarray .int, 2) := by decide +kernel
theorem dX7_init_107 : decode cX7_init 107 = .ok (.putfield 49, 3) := by decide +kernel
theorem dX7_init_110 : decode cX7_init 110 = .ok (.aload_n 0, 1) := by decide +kernel
theorem dX7_init_111 : decode cX7_init 111 = .ok (.iconst 4, 1) := by decide +kernel
theorem dX7_init_112 : decode cX7_init 112 = .ok (.newarray .int, 2) := by decide +kernel
theorem dX7_init_114 : decode cX7_init 114 = .ok (.putfield 52, 3) := by decide +kernel
theorem dX7_init_117 : decode cX7_init 117 = .ok (.aload_n 0, 1) := by decide +kernel
theorem dX7_init_118 : decode cX7_init 118 = .ok (.iconst 4, 1) := by decide +kernel
theorem dX7_init_119 : decode cX7_init 119 = .ok (.newarray .int, 2) := by decide +kernel
theorem dX7_init_121 : decode cX7_init 121 = .ok (.putfield 55, 3) := by decide +kernel
theorem dX7_init_124 : decode cX7_init 124 = .ok (.aload_n 0, 1) := by decide +kernel
theorem dX7_init_125 : decode cX7_init 125 = .ok (.bipush 6, 2) := by decide +kernel
theorem dX7_init_127 : decode cX7_init 127 = .ok (.newarray .int, 2) := by decide +kernel
theorem dX7_init_129 : decode cX7_init 129 = .ok (.putfield 58, 3) := by decide +kernel
theorem dX7_init_132 : decode cX7_init 132 = .ok (.aload_n 0, 1) := by decide +kernel
theorem dX7_init_133 : decode cX7_init 133 = .ok (.iconst 4, 1) := by decide +kernel
theorem dX7_init_134 : decode cX7_init 134 = .ok (.newarray .int, 2) := by decide +kernel
theorem dX7_init_136 : decode cX7_init 136 = .ok (.putfield 61, 3) := by decide +kernel
theorem dX7_init_139 : decode cX7_init 139 = .ok (.aload_n 0, 1) := by decide +kernel
theorem dX7_init_140 : decode cX7_init 140 = .ok (.bipush 8, 2) := by decide +kernel
theorem dX7_init_142 : decode cX7_init 142 = .ok (.newarray .int, 2) := by decide +kernel
theorem dX7_init_144 : decode cX7_init 144 = .ok (.putfield 64, 3) := by decide +kernel
theorem dX7_init_147 : decode cX7_init 147 = .ok (.aload_n 0, 1) := by decide +kernel
theorem dX7_init_148 : decode cX7_init 148 = .ok (.bipush 18, 2) := by decide +kernel
theorem dX7_init_150 : decode cX7_init 150 = .ok (.newarray .int, 2) := by decide +kernel
theorem dX7_init_152 : decode cX7_init 152 = .ok (.putfield 67, 3) := by decide +kernel
theorem dX7_init_155 : decode cX7_init 155 = .ok (.aload_n 0, 1) := by decide +kernel
theorem dX7_init_156 : decode cX7_init 156 = .ok (.iconst (-1), 1) := by decide +kernel
theorem dX7_init_157 : decode cX7_init 157 = .ok (.putfield 70, 3) := by decide +kernel
theorem dX7_init_160 : decode cX7_init 160 = .ok (.return_, 1) := by decide +kernel
theorem dX7_in_0 : decode cX7_in 0 = .ok (.lload_n 0, 1) := by decide +kernel
theorem dX7_in_1 : decode cX7_in 1 = .ok (.lload_n 2, 1) := by decide +kernel
theorem dX7_in_2 : decode cX7_in 2 = .ok (.lcmp, 1) := by decide +kernel
theorem dX7_in_3 : decode cX7_in 3 = .ok (.ifCond .lt 14, 3) := by decide +kernel
theorem dX7_in_6 : decode cX7_in 6 = .ok (.lload_n 0, 1) := by decide +kernel
theorem dX7_in_7 : decode cX7_in 7 = .ok (.lload 4, 2) := by decide +kernel
theorem dX7_in_9 : decode cX7_in 9 = .ok (.lcmp, 1) := by decide +kernel
theorem dX7_in_10 : decode cX7_in 10 = .ok (.ifCond .gt 7, 3) := by decide +kernel
theorem dX7_in_13 : decode cX7_in 13 = .ok (.iconst 1, 1) := by decide +kernel
theorem dX7_in_14 : decode cX7_in 14 = .ok (.goto 4, 3) := by decide +kernel
theorem dX7_in_17 : decode cX7_in 17 = .ok (.iconst 0, 1) := by decide +kernel
theorem dX7_in_18 : decode cX7_in 18 = .ok (.ireturn, 1) := by decide +kernel
theorem dX7_copy_0 : decode cX7_copy 0 = .ok (.iconst 0, 1) := by decide +kernel
theorem dX7_copy_1 : decode cX7_copy 1 = .ok (.istore_n 2, 1) := by decide +kernel
theorem dX7_copy_2 : decode cX7_copy 2 = .ok (.iload_n 2, 1) := by decide +kernel
theorem dX7_copy_3 : decode cX7_copy 3 = .ok (.aload_n 0, 1) := by decide +kernel
theorem dX7_copy_4 : decode cX7_copy 4 = .ok (.arraylength, 1) := by decide +kernel
theorem dX7_copy_5 : decode cX7_copy 5 = .ok (.if_icmp .ge 15, 3) := by decide +kernel
theorem dX7_copy_8 : decode cX7_copy 8 = .ok (.aload_n 1, 1) := by decide +kernel
theorem dX7_copy_9 : decode cX7_copy 9 = .ok (.iload_n 2, 1) := by decide +kernel
theorem dX7_copy_10 : decode cX7_copy 10 = .ok (.aload_n 0, 1) := by decide +kernel
theorem dX7_copy_11 : decode cX7_copy 11 = .ok (.iload_n 2, 1) := by decide +kernel
theorem dX7_copy_12 : decode cX7_copy 12 = .ok (.iaload, 1) := by decide +kernel
theorem dX7_copy_13 : decode cX7_copy 13 = .ok (.iastore, 1) := by decide +kernel
theorem dX7_copy_14 : decode cX7_copy 14 = .ok (.iinc 2 1, 3) := by decide +kernel
theorem dX7_copy_17 : decode cX7_copy 17 = .ok (.goto (-15), 3) := by decide +kernel
theorem dX7_copy_20 : decode cX7_copy 20 = .ok (.return_, 1) := by decide +kernel
theorem dX7_ones_0 : decode cX7_ones 0 = .ok (.iconst 0, 1) := by decide +kernel
theorem dX7_ones_1 : decode cX7_ones 1 = .ok (.istore_n 1, 1) := by decide +kernel
theorem dX7_ones_2 : decode cX7_ones 2 = .ok (.iconst 0, 1) := by decide +kernel
theorem dX7_ones_3 : decode cX7_ones 3 = .ok (.istore_n 2, 1) := by decide +kernel
theorem dX7_ones_4 : decode cX7_ones 4 = .ok (.iload_n 2, 1) := by decide +kernel
theorem dX7_ones_5 : decode cX7_ones 5 = .ok (.bipush 12, 2) := by decide +kernel
theorem dX7_ones_7 : decode cX7_ones 7 = .ok (.if_icmp .ge 17, 3) := by decide +kernel
theorem dX7_ones_10 : decode cX7_ones 10 = .ok (.iload_n 1, 1) := by decide +kernel
theorem dX7_ones_11 : decode cX7_ones 11 = .ok (.iload_n 0, 1) := by decide +kernel
theorem dX7_ones_12 : decode cX7_ones 12 = .ok (.iload_n 2, 1) := by decide +kernel
theorem dX7_ones_13 : decode cX7_ones 13 = .ok (.ishr, 1) := by decide +kernel
theorem dX7_ones_14 : decode cX7_ones 14 = .ok (.iconst 1, 1) := by decide +kernel
theorem dX7_ones_15 : decode cX7_ones 15 = .ok (.iand, 1) := by decide +kernel
theorem dX7_ones_16 : decode cX7_ones 16 = .ok (.iadd, 1) := by decide +kernel
theorem dX7_ones_17 : decode cX7_ones 17 = .ok (.istore_n 1, 1) := by decide +kernel
theorem dX7_ones_18 : decode cX7_ones 18 = .ok (.iinc 2 1, 3) := by decide +kernel
theorem dX7_ones_21 : decode cX7_ones 21 = .ok (.goto (-17), 3) := by decide +kernel
theorem dX7_ones_24 : decode cX7_ones 24 = .ok (.iload_n 1, 1) := by decide +kernel
theorem dX7_ones_25 : decode cX7_ones 25 = .ok (.ireturn, 1) := by decide +kernel
theorem dX7_common_0 : decode cX7_common 0 = .ok (.iload_n 0, 1) := by decide +kernel
theorem dX7_common_1 : decode cX7_common 1 = .ok (.istore_n 2, 1) := by decide +kernel
theorem dX7_common_2 : decode cX7_common 2 = .ok (.iload_n 1, 1) := by decide +kernel
theorem dX7_common_3 : decode cX7_common 3 = .ok (.istore_n 3, 1) := by decide +kernel
theorem dX7_common_4 : decode cX7_common 4 = .ok (.iload_n 3, 1) := by decide +kernel
theorem dX7_common_5 : decode cX7_common 5 = .ok (.ifCond .le 16, 3) := by decide +kernel
theorem dX7_common_8 : decode cX7_common 8 = .ok (.iload_n 2, 1) := by decide +kernel
theorem dX7_common_9 : decode cX7_common 9 = .ok (.iload_n 3, 1) := by decide +kernel
theorem dX7_common_10 : decode cX7_common 10 = .ok (.irem, 1) := by decide +kernel
theorem dX7_common_11 : decode cX7_common 11 = .ok (.istore 4, 2) := by decide +kernel
theorem dX7_common_13 : decode cX7_common 13 = .ok (.iload_n 3, 1) := by decide +kernel
theorem dX7_common_14 : decode cX7_common 14 = .ok (.istore_n 2, 1) := by decide +kernel
theorem dX7_common_15 : decode cX7_common 15 = .ok (.iload 4, 2) := by decide +kernel
theorem dX7_common_17 : decode cX7_common 17 = .ok (.istore_n 3, 1) := by decide +kernel
theorem dX7_common_18 : decode cX7_common 18 = .ok (.goto (-14), 3) := by decide +kernel
theorem dX7_common_21 : decode cX7_common 21 = .ok (.iload_n 2, 1) := by decide +kernel
theorem dX7_common_22 : decode cX7_common 22 = .ok (.ireturn, 1) := by decide +kernel
theorem dX7_apart_0 : decode cX7_apart 0 = .ok (.iload_n 0, 1) := by decide +kernel
theorem dX7_apart_1 : decode cX7_apart 1 = .ok (.iload_n 1, 1) := by decide +kernel
theorem dX7_apart_2 : decode cX7_apart 2 = .ok (.if_icmp .ge 9, 3) := by decide +kernel
theorem dX7_apart_5 : decode cX7_apart 5 = .ok (.iload_n 1, 1) := by decide +kernel
theorem dX7_apart_6 : decode cX7_apart 6 = .ok (.iload_n 0, 1) := by decide +kernel
theorem dX7_apart_7 : decode cX7_apart 7 = .ok (.isub, 1) := by decide +kernel
theorem dX7_apart_8 : decode cX7_apart 8 = .ok (.goto 6, 3) := by decide +kernel
theorem dX7_apart_11 : decode cX7_apart 11 = .ok (.iload_n 0, 1) := by decide +kernel
theorem dX7_apart_12 : decode cX7_apart 12 = .ok (.iload_n 1, 1) := by decide +kernel
theorem dX7_apart_13 : decode cX7_apart 13 = .ok (.isub, 1) := by decide +kernel
theorem dX7_apart_14 : decode cX7_apart 14 = .ok (.ireturn, 1) := by decide +kernel
theorem dX7_letter_0 : decode cX7_letter 0 = .ok (.iload_n 1, 1) := by decide +kernel
theorem dX7_letter_1 : decode cX7_letter 1 = .ok (.i2l, 1) := by decide +kernel
theorem dX7_letter_2 : decode cX7_letter 2 = .ok (.lconst 1, 1) := by decide +kernel
theorem dX7_letter_3 : decode cX7_letter 3 = .ok (.ldc2_w 74, 3) := by decide +kernel
theorem dX7_letter_6 : decode cX7_letter 6 = .ok (.invokestatic 76, 3) := by decide +kernel
theorem dX7_letter_9 : decode cX7_letter 9 = .ok (.ifCond .ne 6, 3) := by decide +kernel
theorem dX7_letter_12 : decode cX7_letter 12 = .ok (.bipush (-102), 2) := by decide +kernel
theorem dX7_letter_14 : decode cX7_letter 14 = .ok (.ireturn, 1) := by decide +kernel
theorem dX7_letter_15 : decode cX7_letter 15 = .ok (.aload_n 0, 1) := by decide +kernel
theorem dX7_letter_16 : decode cX7_letter 16 = .ok (.getfield 80, 3) := by decide +kernel
theorem dX7_letter_19 : decode cX7_letter 19 = .ok (.bipush 24, 2) := by decide +kernel
theorem dX7_letter_21 : decode cX7_letter 21 = .ok (.if_icmp .ne 6, 3) := by decide +kernel
theorem dX7_letter_24 : decode cX7_letter 24 = .ok (.bipush (-104), 2) := by decide +kernel
theorem dX7_letter_26 : decode cX7_letter 26 = .ok (.ireturn, 1) := by decide +kernel
theorem dX7_letter_27 : decode cX7_letter 27 = .ok (.aload_n 0, 1) := by decide +kernel
theorem dX7_letter_28 : decode cX7_letter 28 = .ok (.getfield 7, 3) := by decide +kernel
theorem dX7_letter_31 : decode cX7_letter 31 = .ok (.aload_n 0, 1) := by decide +kernel
theorem dX7_letter_32 : decode cX7_letter 32 = .ok (.getfield 80, 3) := by decide +kernel
theorem dX7_letter_35 : decode cX7_letter 35 = .ok (.iload_n 1, 1) := by decide +kernel
theorem dX7_letter_36 : decode cX7_letter 36 = .ok (.iastore, 1) := by decide +kernel
theorem dX7_letter_37 : decode cX7_letter 37 = .ok (.aload_n 0, 1) := by decide +kernel
theorem dX7_letter_38 : decode cX7_letter 38 = .ok (.dup, 1) := by decide +kernel
theorem dX7_letter_39 : decode cX7_letter 39 = .ok (.getfield 80, 3) := by decide +kernel
theorem dX7_letter_42 : decode cX7_letter 42 = .ok (.iconst 1, 1) := by decide +kernel
theorem dX7_letter_43 : decode cX7_letter 43 = .ok (.iadd, 1) := by decide +kernel
theorem dX7_letter_44 : decode cX7_letter 44 = .ok (.putfield 80, 3) := by decide +kernel
theorem dX7_letter_47 : decode cX7_letter 47 = .ok (.aload_n 0, 1) := by decide +kernel
theorem dX7_letter_48 : decode cX7_letter 48 = .ok (.getfield 80, 3) := by decide +kernel
theorem dX7_letter_51 : decode cX7_letter 51 = .ok (.ireturn, 1) := by decide +kernel
theorem dX7_blank_0 : decode cX7_blank 0 = .ok (.aload_n 0, 1) := by decide +kernel
theorem dX7_blank_1 : decode cX7_blank 1 = .ok (.getfield 80, 3) := by decide +kernel
theorem dX7_blank_4 : decode cX7_blank 4 = .ok (.istore_n 1, 1) := by decide +kernel
theorem dX7_blank_5 : decode cX7_blank 5 = .ok (.aload_n 0, 1) := by decide +kernel
theorem dX7_blank_6 : decode cX7_blank 6 = .ok (.iconst 0, 1) := by decide +kernel
theorem dX7_blank_7 : decode cX7_blank 7 = .ok (.putfield 80, 3) := by decide +kernel
theorem dX7_blank_10 : decode cX7_blank 10 = .ok (.iload_n 1, 1) := by decide +kernel
theorem dX7_blank_11 : decode cX7_blank 11 = .ok (.ireturn, 1) := by decide +kernel
theorem dX7_kindBy_0 : decode cX7_kindBy 0 = .ok (.iload_n 0, 1) := by decide +kernel
theorem dX7_kindBy_1 : decode cX7_kindBy 1 = .ok (.lookupswitch 61 #[(98, 55), (109, 59), (112, 51), (115, 53), (116, 57)], 51) := by decide +kernel
theorem dX7_kindBy_52 : decode cX7_kindBy 52 = .ok (.iconst 0, 1) := by decide +kernel
theorem dX7_kindBy_53 : decode cX7_kindBy 53 = .ok (.ireturn, 1) := by decide +kernel
theorem dX7_kindBy_54 : decode cX7_kindBy 54 = .ok (.iconst 1, 1) := by decide +kernel
theorem dX7_kindBy_55 : decode cX7_kindBy 55 = .ok (.ireturn, 1) := by decide +kernel
theorem dX7_kindBy_56 : decode cX7_kindBy 56 = .ok (.iconst 2, 1) := by decide +kernel
theorem dX7_kindBy_57 : decode cX7_kindBy 57 = .ok (.ireturn, 1) := by decide +kernel
theorem dX7_kindBy_58 : decode cX7_kindBy 58 = .ok (.iconst 3, 1) := by decide +kernel
theorem dX7_kindBy_59 : decode cX7_kindBy 59 = .ok (.ireturn, 1) := by decide +kernel
theorem dX7_kindBy_60 : decode cX7_kindBy 60 = .ok (.iconst 4, 1) := by decide +kernel
theorem dX7_kindBy_61 : decode cX7_kindBy 61 = .ok (.ireturn, 1) := by decide +kernel
theorem dX7_kindBy_62 : decode cX7_kindBy 62 = .ok (.iconst (-1), 1) := by decide +kernel
theorem dX7_kindBy_63 : decode cX7_kindBy 63 = .ok (.ireturn, 1) := by decide +kernel
theorem dX7_isPersonLetter_0 : decode cX7_isPersonLetter 0 = .ok (.aload_n 0, 1) := by decide +kernel
theorem dX7_isPersonLetter_1 : decode cX7_isPersonLetter 1 = .ok (.getfield 7, 3) := by decide +kernel
theorem dX7_isPersonLetter_4 : decode cX7_isPersonLetter 4 = .ok (.iload_n 1, 1) := by decide +kernel
theorem dX7_isPersonLetter_5 : decode cX7_isPersonLetter 5 = .ok (.iaload, 1) := by decide +kernel
theorem dX7_isPersonLetter_6 : decode cX7_isPersonLetter 6 = .ok (.istore_n 2, 1) := by decide +kernel
theorem dX7_isPersonLetter_7 : decode cX7_isPersonLetter 7 = .ok (.iload_n 1, 1) := by decide +kernel
theorem dX7_isPersonLetter_8 : decode cX7_isPersonLetter 8 = .ok (.iconst 4, 1) := by decide +kernel
theorem dX7_isPersonLetter_9 : decode cX7_isPersonLetter 9 = .ok (.irem, 1) := by decide +kernel
theorem dX7_isPersonLetter_10 : decode cX7_isPersonLetter 10 = .ok (.tableswitch 64 0 2 #[26, 40, 52], 26) := by decide +kernel
theorem dX7_isPersonLetter_36 : decode cX7_isPersonLetter 36 = .ok (.iload_n 2, 1) := by decide +kernel
theorem dX7_isPersonLetter_37 : decode cX7_isPersonLetter 37 = .ok (.invokestatic 83, 3) := by decide +kernel
theorem dX7_isPersonLetter_40 : decode cX7_isPersonLetter 40 = .ok (.iconst (-1), 1) := by decide +kernel
theorem dX7_isPersonLetter_41 : decode cX7_isPersonLetter 41 = .ok (.if_icmp .eq 7, 3) := by decide +kernel
theorem dX7_isPersonLetter_44 : decode cX7_isPersonLetter 44 = .ok (.iconst 1, 1) := by decide +kernel
theorem dX7_isPersonLetter_45 : decode cX7_isPersonLetter 45 = .ok (.goto 4, 3) := by decide +kernel
theorem dX7_isPersonLetter_48 : decode cX7_isPersonLetter 48 = .ok (.iconst 0, 1) := by decide +kernel
theorem dX7_isPersonLetter_49 : decode cX7_isPersonLetter 49 = .ok (.ireturn, 1) := by decide +kernel
theorem dX7_isPersonLetter_50 : decode cX7_isPersonLetter 50 = .ok (.iload_n 2, 1) := by decide +kernel
theorem dX7_isPersonLetter_51 : decode cX7_isPersonLetter 51 = .ok (.i2l, 1) := by decide +kernel
theorem dX7_isPersonLetter_52 : decode cX7_isPersonLetter 52 = .ok (.ldc2_w 87, 3) := by decide +kernel
theorem dX7_isPersonLetter_55 : decode cX7_isPersonLetter 55 = .ok (.ldc2_w 89, 3) := by decide +kernel
theorem dX7_isPersonLetter_58 : decode cX7_isPersonLetter 58 = .ok (.invokestatic 76, 3) := by decide +kernel
theorem dX7_isPersonLetter_61 : decode cX7_isPersonLetter 61 = .ok (.ireturn, 1) := by decide +kernel
theorem dX7_isPersonLetter_62 : decode cX7_isPersonLetter 62 = .ok (.iload_n 2, 1) := by decide +kernel
theorem dX7_isPersonLetter_63 : decode cX7_isPersonLetter 63 = .ok (.i2l, 1) := by decide +kernel
theorem dX7_isPersonLetter_64 : decode cX7_isPersonLetter 64 = .ok (.ldc2_w 91, 3) := by decide +kernel
theorem dX7_isPersonLetter_67 : decode cX7_isPersonLetter 67 = .ok (.ldc2_w 93, 3) := by decide +kernel
theorem dX7_isPersonLetter_70 : decode cX7_isPersonLetter 70 = .ok (.invokestatic 76, 3) := by decide +kernel
theorem dX7_isPersonLetter_73 : decode cX7_isPersonLetter 73 = .ok (.ireturn, 1) := by decide +kernel
theorem dX7_isPersonLetter_74 : decode cX7_isPersonLetter 74 = .ok (.iload_n 2, 1) := by decide +kernel
theorem dX7_isPersonLetter_75 : decode cX7_isPersonLetter 75 = .ok (.bipush 44, 2) := by decide +kernel
theorem dX7_isPersonLetter_77 : decode cX7_isPersonLetter 77 = .ok (.if_icmp .ne 9, 3) := by decide +kernel
theorem dX7_isPersonLetter_80 : decode cX7_isPersonLetter 80 = .ok (.iload_n 1, 1) := by decide +kernel
theorem dX7_isPersonLetter_81 : decode cX7_isPersonLetter 81 = .ok (.bipush 15, 2) := by decide +kernel
theorem dX7_isPersonLetter_83 : decode cX7_isPersonLetter 83 = .ok (.if_icmp .lt 14, 3) := by decide +kernel
theorem dX7_isPersonLetter_86 : decode cX7_isPersonLetter 86 = .ok (.iload_n 2, 1) := by decide +kernel
theorem dX7_isPersonLetter_87 : decode cX7_isPersonLetter 87 = .ok (.bipush 59, 2) := by decide +kernel
theorem dX7_isPersonLetter_89 : decode cX7_isPersonLetter 89 = .ok (.if_icmp .ne 12, 3) := by decide +kernel
theorem dX7_isPersonLetter_92 : decode cX7_isPersonLetter 92 = .ok (.iload_n 1, 1) := by decide +kernel
theorem dX7_isPersonLetter_93 : decode cX7_isPersonLetter 93 = .ok (.iconst 3, 1) := by decide +kernel
theorem dX7_isPersonLetter_94 : decode cX7_isPersonLetter 94 = .ok (.if_icmp .le 7, 3) := by decide +kernel
theorem dX7_isPersonLetter_97 : decode cX7_isPersonLetter 97 = .ok (.iconst 1, 1) := by decide +kernel
theorem dX7_isPersonLetter_98 : decode cX7_isPersonLetter 98 = .ok (.goto 4, 3) := by decide +kernel
theorem dX7_isPersonLetter_101 : decode cX7_isPersonLetter 101 = .ok (.iconst 0, 1) := by decide +kernel
theorem dX7_isPersonLetter_102 : decode cX7_isPersonLetter 102 = .ok (.ireturn, 1) := by decide +kernel
theorem dX7_isGood_0 : decode cX7_isGood 0 = .ok (.aload_n 0, 1) := by decide +kernel
theorem dX7_isGood_1 : decode cX7_isGood 1 = .ok (.getfield 95, 3) := by decide +kernel
theorem dX7_isGood_4 : decode cX7_isGood 4 = .ok (.iconst (-1), 1) := by decide +kernel
theorem dX7_isGood_5 : decode cX7_isGood 5 = .ok (.if_icmp .eq 39, 3) := by decide +kernel
theorem dX7_isGood_8 : decode cX7_isGood 8 = .ok (.iload_n 1, 1) := by decide +kernel
theorem dX7_isGood_9 : decode cX7_isGood 9 = .ok (.aload_n 0, 1) := by decide +kernel
theorem dX7_isGood_10 : decode cX7_isGood 10 = .ok (.getfield 95, 3) := by decide +kernel
theorem dX7_isGood_13 : decode cX7_isGood 13 = .ok (.isub, 1) := by decide +kernel
theorem dX7_isGood_14 : decode cX7_isGood 14 = .ok (.bipush 7, 2) := by decide +kernel
theorem dX7_isGood_16 : decode cX7_isGood 16 = .ok (.if_icmp .ge 26, 3) := by decide +kernel
theorem dX7_isGood_19 : decode cX7_isGood 19 = .ok (.aload_n 0, 1) := by decide +kernel
theorem dX7_isGood_20 : decode cX7_isGood 20 = .ok (.getfield 7, 3) := by decide +kernel
theorem dX7_isGood_23 : decode cX7_isGood 23 = .ok (.iload_n 1, 1) := by decide +kernel
theorem dX7_isGood_24 : decode cX7_isGood 24 = .ok (.iaload, 1) := by decide +kernel
theorem dX7_isGood_25 : decode cX7_isGood 25 = .ok (.i2l, 1) := by decide +kernel
theorem dX7_isGood_26 : decode cX7_isGood 26 = .ok (.ldc2_w 87, 3) := by decide +kernel
theorem dX7_isGood_29 : decode cX7_isGood 29 = .ok (.ldc2_w 89, 3) := by decide +kernel
theorem dX7_isGood_32 : decode cX7_isGood 32 = .ok (.invokestatic 76, 3) := by decide +kernel
theorem dX7_isGood_35 : decode cX7_isGood 35 = .ok (.ifCond .eq 7, 3) := by decide +kernel
theorem dX7_isGood_38 : decode cX7_isGood 38 = .ok (.iconst 1, 1) := by decide +kernel
theorem dX7_isGood_39 : decode cX7_isGood 39 = .ok (.goto 4, 3) := by decide +kernel
theorem dX7_isGood_42 : decode cX7_isGood 42 = .ok (.iconst 0, 1) := by decide +kernel
theorem dX7_isGood_43 : decode cX7_isGood 43 = .ok (.ireturn, 1) := by decide +kernel
theorem dX7_isGood_44 : decode cX7_isGood 44 = .ok (.aload_n 0, 1) := by decide +kernel
theorem dX7_isGood_45 : decode cX7_isGood 45 = .ok (.iload_n 1, 1) := by decide +kernel
theorem dX7_isGood_46 : decode cX7_isGood 46 = .ok (.invokevirtual 98, 3) := by decide +kernel
theorem dX7_isGood_49 : decode cX7_isGood 49 = .ok (.istore_n 2, 1) := by decide +kernel
theorem dX7_isGood_50 : decode cX7_isGood 50 = .ok (.aload_n 0, 1) := by decide +kernel
theorem dX7_isGood_51 : decode cX7_isGood 51 = .ok (.iload_n 2, 1) := by decide +kernel
theorem dX7_isGood_52 : decode cX7_isGood 52 = .ok (.ifCond .eq 18, 3) := by decide +kernel
theorem dX7_isGood_55 : decode cX7_isGood 55 = .ok (.aload_n 0, 1) := by decide +kernel
theorem dX7_isGood_56 : decode cX7_isGood 56 = .ok (.getfield 7, 3) := by decide +kernel
theorem dX7_isGood_59 : decode cX7_isGood 59 = .ok (.iload_n 1, 1) := by decide +kernel
theorem dX7_isGood_60 : decode cX7_isGood 60 = .ok (.iaload, 1) := by decide +kernel
theorem dX7_isGood_61 : decode cX7_isGood 61 = .ok (.bipush 59, 2) := by decide +kernel
theorem dX7_isGood_63 : decode cX7_isGood 63 = .ok (.if_icmp .ne 7, 3) := by decide +kernel
theorem dX7_isGood_66 : decode cX7_isGood 66 = .ok (.iload_n 1, 1) := by decide +kernel
theorem dX7_isGood_67 : decode cX7_isGood 67 = .ok (.goto 4, 3) := by decide +kernel
theorem dX7_isGood_70 : decode cX7_isGood 70 = .ok (.iconst (-1), 1) := by decide +kernel
theorem dX7_isGood_71 : decode cX7_isGood 71 = .ok (.putfield 95, 3) := by decide +kernel
theorem dX7_isGood_74 : decode cX7_isGood 74 = .ok (.iload_n 2, 1) := by decide +kernel
theorem dX7_isGood_75 : decode cX7_isGood 75 = .ok (.ireturn, 1) := by decide +kernel
theorem dX7_faultOf_0 : decode cX7_faultOf 0 = .ok (.aload_n 0, 1) := by decide +kernel
theorem dX7_faultOf_1 : decode cX7_faultOf 1 = .ok (.iconst (-1), 1) := by decide +kernel
theorem dX7_faultOf_2 : decode cX7_faultOf 2 = .ok (.putfield 95, 3) := by decide +kernel
theorem dX7_faultOf_5 : decode cX7_faultOf 5 = .ok (.iconst 0, 1) := by decide +kernel
theorem dX7_faultOf_6 : decode cX7_faultOf 6 = .ok (.istore_n 1, 1) := by decide +kernel
theorem dX7_faultOf_7 : decode cX7_faultOf 7 = .ok (.iload_n 1, 1) := by decide +kernel
theorem dX7_faultOf_8 : decode cX7_faultOf 8 = .ok (.aload_n 0, 1) := by decide +kernel
theorem dX7_faultOf_9 : decode cX7_faultOf 9 = .ok (.getfield 80, 3) := by decide +kernel
theorem dX7_faultOf_12 : decode cX7_faultOf 12 = .ok (.if_icmp .ge 17, 3) := by decide +kernel
theorem dX7_faultOf_15 : decode cX7_faultOf 15 = .ok (.aload_n 0, 1) := by decide +kernel
theorem dX7_faultOf_16 : decode cX7_faultOf 16 = .ok (.iload_n 1, 1) := by decide +kernel
theorem dX7_faultOf_17 : decode cX7_faultOf 17 = .ok (.invokevirtual 102, 3) := by decide +kernel
theorem dX7_faultOf_20 : decode cX7_faultOf 20 = .ok (.ifCond .eq 9, 3) := by decide +kernel
theorem dX7_faultOf_23 : decode cX7_faultOf 23 = .ok (.iinc 1 1, 3) := by decide +kernel
theorem dX7_faultOf_26 : decode cX7_faultOf 26 = .ok (.goto (-19), 3) := by decide +kernel
theorem dX7_faultOf_29 : decode cX7_faultOf 29 = .ok (.iload_n 1, 1) := by decide +kernel
theorem dX7_faultOf_30 : decode cX7_faultOf 30 = .ok (.ireturn, 1) := by decide +kernel
theorem dX7_fault_0 : decode cX7_fault 0 = .ok (.aload_n 0, 1) := by decide +kernel
theorem dX7_fault_1 : decode cX7_fault 1 = .ok (.invokevirtual 105, 3) := by decide +kernel
theorem dX7_fault_4 : decode cX7_fault 4 = .ok (.ireturn, 1) := by decide +kernel
theorem dX7_valley_0 : decode cX7_valley 0 = .ok (.aload_n 0, 1) := by decide +kernel
theorem dX7_valley_1 : decode cX7_valley 1 = .ok (.invokevirtual 105, 3) := by decide +kernel
theorem dX7_valley_4 : decode cX7_valley 4 = .ok (.aload_n 0, 1) := by decide +kernel
theorem dX7_valley_5 : decode cX7_valley 5 = .ok (.getfield 80, 3) := by decide +kernel
theorem dX7_valley_8 : decode cX7_valley 8 = .ok (.if_icmp .lt 24, 3) := by decide +kernel
theorem dX7_valley_11 : decode cX7_valley 11 = .ok (.aload_n 0, 1) := by decide +kernel
theorem dX7_valley_12 : decode cX7_valley 12 = .ok (.getfield 95, 3) := by decide +kernel
theorem dX7_valley_15 : decode cX7_valley 15 = .ok (.iconst (-1), 1) := by decide +kernel
theorem dX7_valley_16 : decode cX7_valley 16 = .ok (.if_icmp .eq 16, 3) := by decide +kernel
theorem dX7_valley_19 : decode cX7_valley 19 = .ok (.aload_n 0, 1) := by decide +kernel
theorem dX7_valley_20 : decode cX7_valley 20 = .ok (.getfield 80, 3) := by decide +kernel
theorem dX7_valley_23 : decode cX7_valley 23 = .ok (.aload_n 0, 1) := by decide +kernel
theorem dX7_valley_24 : decode cX7_valley 24 = .ok (.getfield 95, 3) := by decide +kernel
theorem dX7_valley_27 : decode cX7_valley 27 = .ok (.isub, 1) := by decide +kernel
theorem dX7_valley_28 : decode cX7_valley 28 = .ok (.iconst 3, 1) := by decide +kernel
theorem dX7_valley_29 : decode cX7_valley 29 = .ok (.if_icmp .ge 6, 3) := by decide +kernel
theorem dX7_valley_32 : decode cX7_valley 32 = .ok (.bipush (-103), 2) := by decide +kernel
theorem dX7_valley_34 : decode cX7_valley 34 = .ok (.ireturn, 1) := by decide +kernel
theorem dX7_valley_35 : decode cX7_valley 35 = .ok (.aload_n 0, 1) := by decide +kernel
theorem dX7_valley_36 : decode cX7_valley 36 = .ok (.aload_n 0, 1) := by decide +kernel
theorem dX7_valley_37 : decode cX7_valley 37 = .ok (.getfield 95, 3) := by decide +kernel
theorem dX7_valley_40 : decode cX7_valley 40 = .ok (.iconst 1, 1) := by decide +kernel
theorem dX7_valley_41 : decode cX7_valley 41 = .ok (.iadd, 1) := by decide +kernel
theorem dX7_valley_42 : decode cX7_valley 42 = .ok (.iconst 4, 1) := by decide +kernel
theorem dX7_valley_43 : decode cX7_valley 43 = .ok (.idiv, 1) := by decide +kernel
theorem dX7_valley_44 : decode cX7_valley 44 = .ok (.putfield 109, 3) := by decide +kernel
theorem dX7_valley_47 : decode cX7_valley 47 = .ok (.aload_n 0, 1) := by decide +kernel
theorem dX7_valley_48 : decode cX7_valley 48 = .ok (.aload_n 0, 1) := by decide +kernel
theorem dX7_valley_49 : decode cX7_valley 49 = .ok (.getfield 80, 3) := by decide +kernel
theorem dX7_valley_52 : decode cX7_valley 52 = .ok (.aload_n 0, 1) := by decide +kernel
theorem dX7_valley_53 : decode cX7_valley 53 = .ok (.getfield 95, 3) := by decide +kernel
theorem dX7_valley_56 : decode cX7_valley 56 = .ok (.isub, 1) := by decide +kernel
theorem dX7_valley_57 : decode cX7_valley 57 = .ok (.iconst 1, 1) := by decide +kernel
theorem dX7_valley_58 : decode cX7_valley 58 = .ok (.isub, 1) := by decide +kernel
theorem dX7_valley_59 : decode cX7_valley 59 = .ok (.putfield 112, 3) := by decide +kernel
theorem dX7_valley_62 : decode cX7_valley 62 = .ok (.iconst 0, 1) := by decide +kernel
theorem dX7_valley_63 : decode cX7_valley 63 = .ok (.istore_n 1, 1) := by decide +kernel
theorem dX7_valley_64 : decode cX7_valley 64 = .ok (.iload_n 1, 1) := by decide +kernel
theorem dX7_valley_65 : decode cX7_valley 65 = .ok (.aload_n 0, 1) := by decide +kernel
theorem dX7_valley_66 : decode cX7_valley 66 = .ok (.getfield 109, 3) := by decide +kernel
theorem dX7_valley_69 : decode cX7_valley 69 = .ok (.if_icmp .ge 88, 3) := by decide +kernel
theorem dX7_valley_72 : decode cX7_valley 72 = .ok (.aload_n 0, 1) := by decide +kernel
theorem dX7_valley_73 : decode cX7_valley 73 = .ok (.getfield 13, 3) := by decide +kernel
theorem dX7_valley_76 : decode cX7_valley 76 = .ok (.iconst 3, 1) := by decide +kernel
theorem dX7_valley_77 : decode cX7_valley 77 = .ok (.iload_n 1, 1) := by decide +kernel
theorem dX7_valley_78 : decode cX7_valley 78 = .ok (.imul, 1) := by decide +kernel
theorem dX7_valley_79 : decode cX7_valley 79 = .ok (.aload_n 0, 1) := by decide +kernel
theorem dX7_valley_80 : decode cX7_valley 80 = .ok (.getfield 7, 3) := by decide +kernel
theorem dX7_valley_83 : decode cX7_valley 83 = .ok (.iconst 4, 1) := by decide +kernel
theorem dX7_valley_84 : decode cX7_valley 84 = .ok (.iload_n 1, 1) := by decide +kernel
theorem dX7_valley_85 : decode cX7_valley 85 = .ok (.imul, 1) := by decide +kernel
theorem dX7_valley_86 : decode cX7_valley 86 = .ok (.iaload, 1) := by decide +kernel
theorem dX7_valley_87 : decode cX7_valley 87 = .ok (.invokestatic 83, 3) := by decide +kernel
theorem dX7_valley_90 : decode cX7_valley 90 = .ok (.iastore, 1) := by decide +kernel
theorem dX7_valley_91 : decode cX7_valley 91 = .ok (.aload_n 0, 1) := by decide +kernel
theorem dX7_valley_92 : decode cX7_valley 92 = .ok (.getfield 13, 3) := by decide +kernel
theorem dX7_valley_95 : decode cX7_valley 95 = .ok (.iconst 3, 1) := by decide +kernel
theorem dX7_valley_96 : decode cX7_valley 96 = .ok (.iload_n 1, 1) := by decide +kernel
theorem dX7_valley_97 : decode cX7_valley 97 = .ok (.imul, 1) := by decide +kernel
theorem dX7_valley_98 : decode cX7_valley 98 = .ok (.iconst 1, 1) := by decide +kernel
theorem dX7_valley_99 : decode cX7_valley 99 = .ok (.iadd, 1) := by decide +kernel
theorem dX7_valley_100 : decode cX7_valley 100 = .ok (.aload_n 0, 1) := by decide +kernel
theorem dX7_valley_101 : decode cX7_valley 101 = .ok (.getfield 7, 3) := by decide +kernel
theorem dX7_valley_104 : decode cX7_valley 104 = .ok (.iconst 4, 1) := by decide +kernel
theorem dX7_valley_105 : decode cX7_valley 105 = .ok (.iload_n 1, 1) := by decide +kernel
theorem dX7_valley_106 : decode cX7_valley 106 = .ok (.imul, 1) := by decide +kernel
theorem dX7_valley_107 : decode cX7_valley 107 = .ok (.iconst 1, 1) := by decide +kernel
theorem dX7_valley_108 : decode cX7_valley 108 = .ok (.iadd, 1) := by decide +kernel
theorem dX7_valley_109 : decode cX7_valley 109 = .ok (.iaload, 1) := by decide +kernel
theorem dX7_valley_110 : decode cX7_valley 110 = .ok (.bipush 48, 2) := by decide +kernel
theorem dX7_valley_112 : decode cX7_valley 112 = .ok (.isub, 1) := by decide +kernel
theorem dX7_valley_113 : decode cX7_valley 113 = .ok (.iastore, 1) := by decide +kernel
theorem dX7_valley_114 : decode cX7_valley 114 = .ok (.aload_n 0, 1) := by decide +kernel
theorem dX7_valley_115 : decode cX7_valley 115 = .ok (.getfield 13, 3) := by decide +kernel
theorem dX7_valley_118 : decode cX7_valley 118 = .ok (.iconst 3, 1) := by decide +kernel
theorem dX7_valley_119 : decode cX7_valley 119 = .ok (.iload_n 1, 1) := by decide +kernel
theorem dX7_valley_120 : decode cX7_valley 120 = .ok (.imul, 1) := by decide +kernel
theorem dX7_valley_121 : decode cX7_valley 121 = .ok (.iconst 2, 1) := by decide +kernel
theorem dX7_valley_122 : decode cX7_valley 122 = .ok (.iadd, 1) := by decide +kernel
theorem dX7_valley_123 : decode cX7_valley 123 = .ok (.iconst 0, 1) := by decide +kernel
theorem dX7_valley_124 : decode cX7_valley 124 = .ok (.iastore, 1) := by decide +kernel
theorem dX7_valley_125 : decode cX7_valley 125 = .ok (.aload_n 0, 1) := by decide +kernel
theorem dX7_valley_126 : decode cX7_valley 126 = .ok (.getfield 16, 3) := by decide +kernel
theorem dX7_valley_129 : decode cX7_valley 129 = .ok (.iload_n 1, 1) := by decide +kernel
theorem dX7_valley_130 : decode cX7_valley 130 = .ok (.aload_n 0, 1) := by decide +kernel
theorem dX7_valley_131 : decode cX7_valley 131 = .ok (.getfield 7, 3) := by decide +kernel
theorem dX7_valley_134 : decode cX7_valley 134 = .ok (.iconst 4, 1) := by decide +kernel
theorem dX7_valley_135 : decode cX7_valley 135 = .ok (.iload_n 1, 1) := by decide +kernel
theorem dX7_valley_136 : decode cX7_valley 136 = .ok (.imul, 1) := by decide +kernel
theorem dX7_valley_137 : decode cX7_valley 137 = .ok (.iconst 2, 1) := by decide +kernel
theorem dX7_valley_138 : decode cX7_valley 138 = .ok (.iadd, 1) := by decide +kernel
theorem dX7_valley_139 : decode cX7_valley 139 = .ok (.iaload, 1) := by decide +kernel
theorem dX7_valley_140 : decode cX7_valley 140 = .ok (.bipush 48, 2) := by decide +kernel
theorem dX7_valley_142 : decode cX7_valley 142 = .ok (.isub, 1) := by decide +kernel
theorem dX7_valley_143 : decode cX7_valley 143 = .ok (.iastore, 1) := by decide +kernel
theorem dX7_valley_144 : decode cX7_valley 144 = .ok (.aload_n 0, 1) := by decide +kernel
theorem dX7_valley_145 : decode cX7_valley 145 = .ok (.getfield 19, 3) := by decide +kernel
theorem dX7_valley_148 : decode cX7_valley 148 = .ok (.iload_n 1, 1) := by decide +kernel
theorem dX7_valley_149 : decode cX7_valley 149 = .ok (.iconst 0, 1) := by decide +kernel
theorem dX7_valley_150 : decode cX7_valley 150 = .ok (.iastore, 1) := by decide +kernel
theorem dX7_valley_151 : decode cX7_valley 151 = .ok (.iinc 1 1, 3) := by decide +kernel
theorem dX7_valley_154 : decode cX7_valley 154 = .ok (.goto (-90), 3) := by decide +kernel
theorem dX7_valley_157 : decode cX7_valley 157 = .ok (.iconst 0, 1) := by decide +kernel
theorem dX7_valley_158 : decode cX7_valley 158 = .ok (.istore_n 1, 1) := by decide +kernel
theorem dX7_valley_159 : decode cX7_valley 159 = .ok (.iload_n 1, 1) := by decide +kernel
theorem dX7_valley_160 : decode cX7_valley 160 = .ok (.aload_n 0, 1) := by decide +kernel
theorem dX7_valley_161 : decode cX7_valley 161 = .ok (.getfield 112, 3) := by decide +kernel
theorem dX7_valley_164 : decode cX7_valley 164 = .ok (.if_icmp .ge 38, 3) := by decide +kernel
theorem dX7_valley_167 : decode cX7_valley 167 = .ok (.aload_n 0, 1) := by decide +kernel
theorem dX7_valley_168 : decode cX7_valley 168 = .ok (.getfield 22, 3) := by decide +kernel
theorem dX7_valley_171 : decode cX7_valley 171 = .ok (.iload_n 1, 1) := by decide +kernel
theorem dX7_valley_172 : decode cX7_valley 172 = .ok (.aload_n 0, 1) := by decide +kernel
theorem dX7_valley_173 : decode cX7_valley 173 = .ok (.getfield 7, 3) := by decide +kernel
theorem dX7_valley_176 : decode cX7_valley 176 = .ok (.aload_n 0, 1) := by decide +kernel
theorem dX7_valley_177 : decode cX7_valley 177 = .ok (.getfield 95, 3) := by decide +kernel
theorem dX7_valley_180 : decode cX7_valley 180 = .ok (.iconst 1, 1) := by decide +kernel
theorem dX7_valley_181 : decode cX7_valley 181 = .ok (.iadd, 1) := by decide +kernel
theorem dX7_valley_182 : decode cX7_valley 182 = .ok (.iload_n 1, 1) := by decide +kernel
theorem dX7_valley_183 : decode cX7_valley 183 = .ok (.iadd, 1) := by decide +kernel
theorem dX7_valley_184 : decode cX7_valley 184 = .ok (.iaload, 1) := by decide +kernel
theorem dX7_valley_185 : decode cX7_valley 185 = .ok (.bipush 48, 2) := by decide +kernel
theorem dX7_valley_187 : decode cX7_valley 187 = .ok (.isub, 1) := by decide +kernel
theorem dX7_valley_188 : decode cX7_valley 188 = .ok (.iastore, 1) := by decide +kernel
theorem dX7_valley_189 : decode cX7_valley 189 = .ok (.aload_n 0, 1) := by decide +kernel
theorem dX7_valley_190 : decode cX7_valley 190 = .ok (.getfield 25, 3) := by decide +kernel
theorem dX7_valley_193 : decode cX7_valley 193 = .ok (.iload_n 1, 1) := by decide +kernel
theorem dX7_valley_194 : decode cX7_valley 194 = .ok (.iconst 0, 1) := by decide +kernel
theorem dX7_valley_195 : decode cX7_valley 195 = .ok (.iastore, 1) := by decide +kernel
theorem dX7_valley_196 : decode cX7_valley 196 = .ok (.iinc 1 1, 3) := by decide +kernel
theorem dX7_valley_199 : decode cX7_valley 199 = .ok (.goto (-40), 3) := by decide +kernel
theorem dX7_valley_202 : decode cX7_valley 202 = .ok (.iconst 0, 1) := by decide +kernel
theorem dX7_valley_203 : decode cX7_valley 203 = .ok (.istore_n 1, 1) := by decide +kernel
theorem dX7_valley_204 : decode cX7_valley 204 = .ok (.iload_n 1, 1) := by decide +kernel
theorem dX7_valley_205 : decode cX7_valley 205 = .ok (.iconst 4, 1) := by decide +kernel
theorem dX7_valley_206 : decode cX7_valley 206 = .ok (.if_icmp .ge 16, 3) := by decide +kernel
theorem dX7_valley_209 : decode cX7_valley 209 = .ok (.aload_n 0, 1) := by decide +kernel
theorem dX7_valley_210 : decode cX7_valley 210 = .ok (.getfield 28, 3) := by decide +kernel
theorem dX7_valley_213 : decode cX7_valley 213 = .ok (.iload_n 1, 1) := by decide +kernel
theorem dX7_valley_214 : decode cX7_valley 214 = .ok (.iconst 0, 1) := by decide +kernel
theorem dX7_valley_215 : decode cX7_valley 215 = .ok (.iastore, 1) := by decide +kernel
theorem dX7_valley_216 : decode cX7_valley 216 = .ok (.iinc 1 1, 3) := by decide +kernel
theorem dX7_valley_219 : decode cX7_valley 219 = .ok (.goto (-15), 3) := by decide +kernel
theorem dX7_valley_222 : decode cX7_valley 222 = .ok (.aload_n 0, 1) := by decide +kernel
theorem dX7_valley_223 : decode cX7_valley 223 = .ok (.iconst 0, 1) := by decide +kernel
theorem dX7_valley_224 : decode cX7_valley 224 = .ok (.putfield 115, 3) := by decide +kernel
theorem dX7_valley_227 : decode cX7_valley 227 = .ok (.aload_n 0, 1) := by decide +kernel
theorem dX7_valley_228 : decode cX7_valley 228 = .ok (.iconst 0, 1) := by decide +kernel
theorem dX7_valley_229 : decode cX7_valley 229 = .ok (.putfield 118, 3) := by decide +kernel
theorem dX7_valley_232 : decode cX7_valley 232 = .ok (.aload_n 0, 1) := by decide +kernel
theorem dX7_valley_233 : decode cX7_valley 233 = .ok (.iconst 0, 1) := by decide +kernel
theorem dX7_valley_234 : decode cX7_valley 234 = .ok (.putfield 121, 3) := by decide +kernel
theorem dX7_valley_237 : decode cX7_valley 237 = .ok (.aload_n 0, 1) := by decide +kernel
theorem dX7_valley_238 : decode cX7_valley 238 = .ok (.iconst 0, 1) := by decide +kernel
theorem dX7_valley_239 : decode cX7_valley 239 = .ok (.putfield 124, 3) := by decide +kernel
theorem dX7_valley_242 : decode cX7_valley 242 = .ok (.aload_n 0, 1) := by decide +kernel
theorem dX7_valley_243 : decode cX7_valley 243 = .ok (.iconst 0, 1) := by decide +kernel
theorem dX7_valley_244 : decode cX7_valley 244 = .ok (.putfield 127, 3) := by decide +kernel
theorem dX7_valley_247 : decode cX7_valley 247 = .ok (.aload_n 0, 1) := by decide +kernel
theorem dX7_valley_248 : decode cX7_valley 248 = .ok (.dup, 1) := by decide +kernel
theorem dX7_valley_249 : decode cX7_valley 249 = .ok (.getfield 130, 3) := by decide +kernel
theorem dX7_valley_252 : decode cX7_valley 252 = .ok (.iconst 1, 1) := by decide +kernel
theorem dX7_valley_253 : decode cX7_valley 253 = .ok (.iadd, 1) := by decide +kernel
theorem dX7_valley_254 : decode cX7_valley 254 = .ok (.putfield 130, 3) := by decide +kernel
theorem dX7_valley_257 : decode cX7_valley 257 = .ok (.aload_n 0, 1) := by decide +kernel
theorem dX7_valley_258 : decode cX7_valley 258 = .ok (.iconst 0, 1) := by decide +kernel
theorem dX7_valley_259 : decode cX7_valley 259 = .ok (.putfield 80, 3) := by decide +kernel
theorem dX7_valley_262 : decode cX7_valley 262 = .ok (.aload_n 0, 1) := by decide +kernel
theorem dX7_valley_263 : decode cX7_valley 263 = .ok (.getfield 112, 3) := by decide +kernel
theorem dX7_valley_266 : decode cX7_valley 266 = .ok (.ireturn, 1) := by decide +kernel
theorem dX7_lacks_0 : decode cX7_lacks 0 = .ok (.aload_n 0, 1) := by decide +kernel
theorem dX7_lacks_1 : decode cX7_lacks 1 = .ok (.getfield 109, 3) := by decide +kernel
theorem dX7_lacks_4 : decode cX7_lacks 4 = .ok (.ifCond .ne 7, 3) := by decide +kernel
theorem dX7_lacks_7 : decode cX7_lacks 7 = .ok (.iconst 1, 1) := by decide +kernel
theorem dX7_lacks_8 : decode cX7_lacks 8 = .ok (.goto 4, 3) := by decide +kernel
theorem dX7_lacks_11 : decode cX7_lacks 11 = .ok (.iconst 0, 1) := by decide +kernel
theorem dX7_lacks_12 : decode cX7_lacks 12 = .ok (.ireturn, 1) := by decide +kernel
theorem dX7_isPerson_0 : decode cX7_isPerson 0 = .ok (.iload_n 1, 1) := by decide +kernel
theorem dX7_isPerson_1 : decode cX7_isPerson 1 = .ok (.i2l, 1) := by decide +kernel
theorem dX7_isPerson_2 : decode cX7_isPerson 2 = .ok (.lconst 0, 1) := by decide +kernel
theorem dX7_isPerson_3 : decode cX7_isPerson 3 = .ok (.aload_n 0, 1) := by decide +kernel
theorem dX7_isPerson_4 : decode cX7_isPerson 4 = .ok (.getfield 109, 3) := by decide +kernel
theorem dX7_isPerson_7 : decode cX7_isPerson 7 = .ok (.iconst 1, 1) := by decide +kernel
theorem dX7_isPerson_8 : decode cX7_isPerson 8 = .ok (.isub, 1) := by decide +kernel
theorem dX7_isPerson_9 : decode cX7_isPerson 9 = .ok (.i2l, 1) := by decide +kernel
theorem dX7_isPerson_10 : decode cX7_isPerson 10 = .ok (.invokestatic 76, 3) := by decide +kernel
theorem dX7_isPerson_13 : decode cX7_isPerson 13 = .ok (.ireturn, 1) := by decide +kernel
theorem dX7_isPail_0 : decode cX7_isPail 0 = .ok (.iload_n 1, 1) := by decide +kernel
theorem dX7_isPail_1 : decode cX7_isPail 1 = .ok (.i2l, 1) := by decide +kernel
theorem dX7_isPail_2 : decode cX7_isPail 2 = .ok (.lconst 0, 1) := by decide +kernel
theorem dX7_isPail_3 : decode cX7_isPail 3 = .ok (.aload_n 0, 1) := by decide +kernel
theorem dX7_isPail_4 : decode cX7_isPail 4 = .ok (.getfield 112, 3) := by decide +kernel
theorem dX7_isPail_7 : decode cX7_isPail 7 = .ok (.iconst 1, 1) := by decide +kernel
theorem dX7_isPail_8 : decode cX7_isPail 8 = .ok (.isub, 1) := by decide +kernel
theorem dX7_isPail_9 : decode cX7_isPail 9 = .ok (.i2l, 1) := by decide +kernel
theorem dX7_isPail_10 : decode cX7_isPail 10 = .ok (.invokestatic 76, 3) := by decide +kernel
theorem dX7_isPail_13 : decode cX7_isPail 13 = .ok (.ireturn, 1) := by decide +kernel
theorem dX7_isPlace_0 : decode cX7_isPlace 0 = .ok (.aload_n 0, 1) := by decide +kernel
theorem dX7_isPlace_1 : decode cX7_isPlace 1 = .ok (.invokevirtual 133, 3) := by decide +kernel
theorem dX7_isPlace_4 : decode cX7_isPlace 4 = .ok (.ifCond .ne 19, 3) := by decide +kernel
theorem dX7_isPlace_7 : decode cX7_isPlace 7 = .ok (.iload_n 1, 1) := by decide +kernel
theorem dX7_isPlace_8 : decode cX7_isPlace 8 = .ok (.i2l, 1) := by decide +kernel
theorem dX7_isPlace_9 : decode cX7_isPlace 9 = .ok (.lconst 0, 1) := by decide +kernel
theorem dX7_isPlace_10 : decode cX7_isPlace 10 = .ok (.ldc2_w 137, 3) := by decide +kernel
theorem dX7_isPlace_13 : decode cX7_isPlace 13 = .ok (.invokestatic 76, 3) := by decide +kernel
theorem dX7_isPlace_16 : decode cX7_isPlace 16 = .ok (.ifCond .eq 7, 3) := by decide +kernel
theorem dX7_isPlace_19 : decode cX7_isPlace 19 = .ok (.iconst 1, 1) := by decide +kernel
theorem dX7_isPlace_20 : decode cX7_isPlace 20 = .ok (.goto 4, 3) := by decide +kernel
theorem dX7_isPlace_23 : decode cX7_isPlace 23 = .ok (.iconst 0, 1) := by decide +kernel
theorem dX7_isPlace_24 : decode cX7_isPlace 24 = .ok (.ireturn, 1) := by decide +kernel
theorem dX7_isBottle_0 : decode cX7_isBottle 0 = .ok (.aload_n 0, 1) := by decide +kernel
theorem dX7_isBottle_1 : decode cX7_isBottle 1 = .ok (.invokevirtual 133, 3) := by decide +kernel
theorem dX7_isBottle_4 : decode cX7_isBottle 4 = .ok (.ifCond .ne 19, 3) := by decide +kernel
theorem dX7_isBottle_7 : decode cX7_isBottle 7 = .ok (.iload_n 1, 1) := by decide +kernel
theorem dX7_isBottle_8 : decode cX7_isBottle 8 = .ok (.i2l, 1) := by decide +kernel
theorem dX7_isBottle_9 : decode cX7_isBottle 9 = .ok (.lconst 0, 1) := by decide +kernel
theorem dX7_isBottle_10 : decode cX7_isBottle 10 = .ok (.ldc2_w 139, 3) := by decide +kernel
theorem dX7_isBottle_13 : decode cX7_isBottle 13 = .ok (.invokestatic 76, 3) := by decide +kernel
theorem dX7_isBottle_16 : decode cX7_isBottle 16 = .ok (.ifCond .eq 7, 3) := by decide +kernel
theorem dX7_isBottle_19 : decode cX7_isBottle 19 = .ok (.iconst 1, 1) := by decide +kernel
theorem dX7_isBottle_20 : decode cX7_isBottle 20 = .ok (.goto 4, 3) := by decide +kernel
theorem dX7_isBottle_23 : decode cX7_isBottle 23 = .ok (.iconst 0, 1) := by decide +kernel
theorem dX7_isBottle_24 : decode cX7_isBottle 24 = .ok (.ireturn, 1) := by decide +kernel
theorem dX7_grievedBy_0 : decode cX7_grievedBy 0 = .ok (.iload_n 2, 1) := by decide +kernel
theorem dX7_grievedBy_1 : decode cX7_grievedBy 1 = .ok (.ifCond .ne 7, 3) := by decide +kernel
theorem dX7_grievedBy_4 : decode cX7_grievedBy 4 = .ok (.iconst 4, 1) := by decide +kernel
theorem dX7_grievedBy_5 : decode cX7_grievedBy 5 = .ok (.goto 24, 3) := by decide +kernel
theorem dX7_grievedBy_8 : decode cX7_grievedBy 8 = .ok (.iload_n 2, 1) := by decide +kernel
theorem dX7_grievedBy_9 : decode cX7_grievedBy 9 = .ok (.iconst 2, 1) := by decide +kernel
theorem dX7_grievedBy_10 : decode cX7_grievedBy 10 = .ok (.if_icmp .ne 7, 3) := by decide +kernel
theorem dX7_grievedBy_13 : decode cX7_grievedBy 13 = .ok (.iconst 2, 1) := by decide +kernel
theorem dX7_grievedBy_14 : decode cX7_grievedBy 14 = .ok (.goto 15, 3) := by decide +kernel
theorem dX7_grievedBy_17 : decode cX7_grievedBy 17 = .ok (.iload_n 0, 1) := by decide +kernel
theorem dX7_grievedBy_18 : decode cX7_grievedBy 18 = .ok (.iconst 3, 1) := by decide +kernel
theorem dX7_grievedBy_19 : decode cX7_grievedBy 19 = .ok (.if_icmp .ne 8, 3) := by decide +kernel
theorem dX7_grievedBy_22 : decode cX7_grievedBy 22 = .ok (.bipush 12, 2) := by decide +kernel
theorem dX7_grievedBy_24 : decode cX7_grievedBy 24 = .ok (.goto 5, 3) := by decide +kernel
theorem dX7_grievedBy_27 : decode cX7_grievedBy 27 = .ok (.bipush 6, 2) := by decide +kernel
theorem dX7_grievedBy_29 : decode cX7_grievedBy 29 = .ok (.istore_n 3, 1) := by decide +kernel
theorem dX7_grievedBy_30 : decode cX7_grievedBy 30 = .ok (.iload_n 3, 1) := by decide +kernel
theorem dX7_grievedBy_31 : decode cX7_grievedBy 31 = .ok (.iload_n 1, 1) := by decide +kernel
theorem dX7_grievedBy_32 : decode cX7_grievedBy 32 = .ok (.imul, 1) := by decide +kernel
theorem dX7_grievedBy_33 : decode cX7_grievedBy 33 = .ok (.iconst 5, 1) := by decide +kernel
theorem dX7_grievedBy_34 : decode cX7_grievedBy 34 = .ok (.idiv, 1) := by decide +kernel
theorem dX7_grievedBy_35 : decode cX7_grievedBy 35 = .ok (.istore 4, 2) := by decide +kernel
theorem dX7_grievedBy_37 : decode cX7_grievedBy 37 = .ok (.iload_n 0, 1) := by decide +kernel
theorem dX7_grievedBy_38 : decode cX7_grievedBy 38 = .ok (.iconst 1, 1) := by decide +kernel
theorem dX7_grievedBy_39 : decode cX7_grievedBy 39 = .ok (.if_icmp .eq 8, 3) := by decide +kernel
theorem dX7_grievedBy_42 : decode cX7_grievedBy 42 = .ok (.iload_n 0, 1) := by decide +kernel
theorem dX7_grievedBy_43 : decode cX7_grievedBy 43 = .ok (.iconst 4, 1) := by decide +kernel
theorem dX7_grievedBy_44 : decode cX7_grievedBy 44 = .ok (.if_icmp .ne 10, 3) := by decide +kernel
theorem dX7_grievedBy_47 : decode cX7_grievedBy 47 = .ok (.iload 4, 2) := by decide +kernel
theorem dX7_grievedBy_49 : decode cX7_grievedBy 49 = .ok (.iconst 2, 1) := by decide +kernel
theorem dX7_grievedBy_50 : decode cX7_grievedBy 50 = .ok (.idiv, 1) := by decide +kernel
theorem dX7_grievedBy_51 : decode cX7_grievedBy 51 = .ok (.goto 5, 3) := by decide +kernel
theorem dX7_grievedBy_54 : decode cX7_grievedBy 54 = .ok (.iload 4, 2) := by decide +kernel
theorem dX7_grievedBy_56 : decode cX7_grievedBy 56 = .ok (.ireturn, 1) := by decide +kernel
theorem dX7_topped_0 : decode cX7_topped 0 = .ok (.iload_n 0, 1) := by decide +kernel
theorem dX7_topped_1 : decode cX7_topped 1 = .ok (.bipush 99, 2) := by decide +kernel
theorem dX7_topped_3 : decode cX7_topped 3 = .ok (.if_icmp .le 8, 3) := by decide +kernel
theorem dX7_topped_6 : decode cX7_topped 6 = .ok (.bipush 99, 2) := by decide +kernel
theorem dX7_topped_8 : decode cX7_topped 8 = .ok (.goto 4, 3) := by decide +kernel
theorem dX7_topped_11 : decode cX7_topped 11 = .ok (.iload_n 0, 1) := by decide +kernel
theorem dX7_topped_12 : decode cX7_topped 12 = .ok (.ireturn, 1) := by decide +kernel
theorem dX7_slightOn_0 : decode cX7_slightOn 0 = .ok (.iload_n 2, 1) := by decide +kernel
theorem dX7_slightOn_1 : decode cX7_slightOn 1 = .ok (.iconst (-1), 1) := by decide +kernel
theorem dX7_slightOn_2 : decode cX7_slightOn 2 = .ok (.if_icmp .eq 41, 3) := by decide +kernel
theorem dX7_slightOn_5 : decode cX7_slightOn 5 = .ok (.iload_n 2, 1) := by decide +kernel
theorem dX7_slightOn_6 : decode cX7_slightOn 6 = .ok (.iconst 3, 1) := by decide +kernel
theorem dX7_slightOn_7 : decode cX7_slightOn 7 = .ok (.idiv, 1) := by decide +kernel
theorem dX7_slightOn_8 : decode cX7_slightOn 8 = .ok (.istore_n 3, 1) := by decide +kernel
theorem dX7_slightOn_9 : decode cX7_slightOn 9 = .ok (.aload_n 1, 1) := by decide +kernel
theorem dX7_slightOn_10 : decode cX7_slightOn 10 = .ok (.iload_n 3, 1) := by decide +kernel
theorem dX7_slightOn_11 : decode cX7_slightOn 11 = .ok (.aload_n 1, 1) := by decide +kernel
theorem dX7_slightOn_12 : decode cX7_slightOn 12 = .ok (.iload_n 3, 1) := by decide +kernel
theorem dX7_slightOn_13 : decode cX7_slightOn 13 = .ok (.iaload, 1) := by decide +kernel
theorem dX7_slightOn_14 : decode cX7_slightOn 14 = .ok (.aload_n 0, 1) := by decide +kernel
theorem dX7_slightOn_15 : decode cX7_slightOn 15 = .ok (.getfield 13, 3) := by decide +kernel
theorem dX7_slightOn_18 : decode cX7_slightOn 18 = .ok (.iconst 3, 1) := by decide +kernel
theorem dX7_slightOn_19 : decode cX7_slightOn 19 = .ok (.iload_n 3, 1) := by decide +kernel
theorem dX7_slightOn_20 : decode cX7_slightOn 20 = .ok (.imul, 1) := by decide +kernel
theorem dX7_slightOn_21 : decode cX7_slightOn 21 = .ok (.iaload, 1) := by decide +kernel
theorem dX7_slightOn_22 : decode cX7_slightOn 22 = .ok (.aload_n 0, 1) := by decide +kernel
theorem dX7_slightOn_23 : decode cX7_slightOn 23 = .ok (.getfield 13, 3) := by decide +kernel
theorem dX7_slightOn_26 : decode cX7_slightOn 26 = .ok (.iconst 3, 1) := by decide +kernel
theorem dX7_slightOn_27 : decode cX7_slightOn 27 = .ok (.iload_n 3, 1) := by decide +kernel
theorem dX7_slightOn_28 : decode cX7_slightOn 28 = .ok (.imul, 1) := by decide +kernel
theorem dX7_slightOn_29 : decode cX7_slightOn 29 = .ok (.iconst 1, 1) := by decide +kernel
theorem dX7_slightOn_30 : decode cX7_slightOn 30 = .ok (.iadd, 1) := by decide +kernel
theorem dX7_slightOn_31 : decode cX7_slightOn 31 = .ok (.iaload, 1) := by decide +kernel
theorem dX7_slightOn_32 : decode cX7_slightOn 32 = .ok (.iload_n 2, 1) := by decide +kernel
theorem dX7_slightOn_33 : decode cX7_slightOn 33 = .ok (.iconst 3, 1) := by decide +kernel
theorem dX7_slightOn_34 : decode cX7_slightOn 34 = .ok (.irem, 1) := by decide +kernel
theorem dX7_slightOn_35 : decode cX7_slightOn 35 = .ok (.invokestatic 141, 3) := by decide +kernel
theorem dX7_slightOn_38 : decode cX7_slightOn 38 = .ok (.iadd, 1) := by decide +kernel
theorem dX7_slightOn_39 : decode cX7_slightOn 39 = .ok (.invokestatic 145, 3) := by decide +kernel
theorem dX7_slightOn_42 : decode cX7_slightOn 42 = .ok (.iastore, 1) := by decide +kernel
theorem dX7_slightOn_43 : decode cX7_slightOn 43 = .ok (.return_, 1) := by decide +kernel
theorem dX7_nightOn_0 : decode cX7_nightOn 0 = .ok (.iconst 0, 1) := by decide +kernel
theorem dX7_nightOn_1 : decode cX7_nightOn 1 = .ok (.istore_n 2, 1) := by decide +kernel
theorem dX7_nightOn_2 : decode cX7_nightOn 2 = .ok (.iload_n 2, 1) := by decide +kernel
theorem dX7_nightOn_3 : decode cX7_nightOn 3 = .ok (.aload_n 0, 1) := by decide +kernel
theorem dX7_nightOn_4 : decode cX7_nightOn 4 = .ok (.getfield 109, 3) := by decide +kernel
theorem dX7_nightOn_7 : decode cX7_nightOn 7 = .ok (.if_icmp .ge 63, 3) := by decide +kernel
theorem dX7_nightOn_10 : decode cX7_nightOn 10 = .ok (.aload_n 0, 1) := by decide +kernel
theorem dX7_nightOn_11 : decode cX7_nightOn 11 = .ok (.getfield 13, 3) := by decide +kernel
theorem dX7_nightOn_14 : decode cX7_nightOn 14 = .ok (.iconst 3, 1) := by decide +kernel
theorem dX7_nightOn_15 : decode cX7_nightOn 15 = .ok (.iload_n 2, 1) := by decide +kernel
theorem dX7_nightOn_16 : decode cX7_nightOn 16 = .ok (.imul, 1) := by decide +kernel
theorem dX7_nightOn_17 : decode cX7_nightOn 17 = .ok (.iaload, 1) := by decide +kernel
theorem dX7_nightOn_18 : decode cX7_nightOn 18 = .ok (.istore_n 3, 1) := by decide +kernel
theorem dX7_nightOn_19 : decode cX7_nightOn 19 = .ok (.aload_n 1, 1) := by decide +kernel
theorem dX7_nightOn_20 : decode cX7_nightOn 20 = .ok (.iload_n 2, 1) := by decide +kernel
theorem dX7_nightOn_21 : decode cX7_nightOn 21 = .ok (.iaload, 1) := by decide +kernel
theorem dX7_nightOn_22 : decode cX7_nightOn 22 = .ok (.iconst 2, 1) := by decide +kernel
theorem dX7_nightOn_23 : decode cX7_nightOn 23 = .ok (.idiv, 1) := by decide +kernel
theorem dX7_nightOn_24 : decode cX7_nightOn 24 = .ok (.istore 4, 2) := by decide +kernel
theorem dX7_nightOn_26 : decode cX7_nightOn 26 = .ok (.iload_n 3, 1) := by decide +kernel
theorem dX7_nightOn_27 : decode cX7_nightOn 27 = .ok (.iconst 4, 1) := by decide +kernel
theorem dX7_nightOn_28 : decode cX7_nightOn 28 = .ok (.if_icmp .ne 16, 3) := by decide +kernel
theorem dX7_nightOn_31 : decode cX7_nightOn 31 = .ok (.aload_n 1, 1) := by decide +kernel
theorem dX7_nightOn_32 : decode cX7_nightOn 32 = .ok (.iload_n 2, 1) := by decide +kernel
theorem dX7_nightOn_33 : decode cX7_nightOn 33 = .ok (.iaload, 1) := by decide +kernel
theorem dX7_nightOn_34 : decode cX7_nightOn 34 = .ok (.ifCond .le 10, 3) := by decide +kernel
theorem dX7_nightOn_37 : decode cX7_nightOn 37 = .ok (.iload 4, 2) := by decide +kernel
theorem dX7_nightOn_39 : decode cX7_nightOn 39 = .ok (.iconst 1, 1) := by decide +kernel
theorem dX7_nightOn_40 : decode cX7_nightOn 40 = .ok (.iadd, 1) := by decide +kernel
theorem dX7_nightOn_41 : decode cX7_nightOn 41 = .ok (.goto 5, 3) := by decide +kernel
theorem dX7_nightOn_44 : decode cX7_nightOn 44 = .ok (.iload 4, 2) := by decide +kernel
theorem dX7_nightOn_46 : decode cX7_nightOn 46 = .ok (.istore 4, 2) := by decide +kernel
theorem dX7_nightOn_48 : decode cX7_nightOn 48 = .ok (.aload_n 1, 1) := by decide +kernel
theorem dX7_nightOn_49 : decode cX7_nightOn 49 = .ok (.iload_n 2, 1) := by decide +kernel
theorem dX7_nightOn_50 : decode cX7_nightOn 50 = .ok (.iload_n 3, 1) := by decide +kernel
theorem dX7_nightOn_51 : decode cX7_nightOn 51 = .ok (.iconst 2, 1) := by decide +kernel
theorem dX7_nightOn_52 : decode cX7_nightOn 52 = .ok (.if_icmp .ne 9, 3) := by decide +kernel
theorem dX7_nightOn_55 : decode cX7_nightOn 55 = .ok (.aload_n 1, 1) := by decide +kernel
theorem dX7_nightOn_56 : decode cX7_nightOn 56 = .ok (.iload_n 2, 1) := by decide +kernel
theorem dX7_nightOn_57 : decode cX7_nightOn 57 = .ok (.iaload, 1) := by decide +kernel
theorem dX7_nightOn_58 : decode cX7_nightOn 58 = .ok (.goto 5, 3) := by decide +kernel
theorem dX7_nightOn_61 : decode cX7_nightOn 61 = .ok (.iload 4, 2) := by decide +kernel
theorem dX7_nightOn_63 : decode cX7_nightOn 63 = .ok (.iastore, 1) := by decide +kernel
theorem dX7_nightOn_64 : decode cX7_nightOn 64 = .ok (.iinc 2 1, 3) := by decide +kernel
theorem dX7_nightOn_67 : decode cX7_nightOn 67 = .ok (.goto (-65), 3) := by decide +kernel
theorem dX7_nightOn_70 : decode cX7_nightOn 70 = .ok (.return_, 1) := by decide +kernel
theorem dX7_forceBy_0 : decode cX7_forceBy 0 = .ok (.iload_n 0, 1) := by decide +kernel
theorem dX7_forceBy_1 : decode cX7_forceBy 1 = .ok (.iconst 2, 1) := by decide +kernel
theorem dX7_forceBy_2 : decode cX7_forceBy 2 = .ok (.iload_n 1, 1) := by decide +kernel
theorem dX7_forceBy_3 : decode cX7_forceBy 3 = .ok (.imul, 1) := by decide +kernel
theorem dX7_forceBy_4 : decode cX7_forceBy 4 = .ok (.if_icmp .le 11, 3) := by decide +kernel
theorem dX7_forceBy_7 : decode cX7_forceBy 7 = .ok (.iload_n 0, 1) := by decide +kernel
theorem dX7_forceBy_8 : decode cX7_forceBy 8 = .ok (.iconst 2, 1) := by decide +kernel
theorem dX7_forceBy_9 : decode cX7_forceBy 9 = .ok (.iload_n 1, 1) := by decide +kernel
theorem dX7_forceBy_10 : decode cX7_forceBy 10 = .ok (.imul, 1) := by decide +kernel
theorem dX7_forceBy_11 : decode cX7_forceBy 11 = .ok (.isub, 1) := by decide +kernel
theorem dX7_forceBy_12 : decode cX7_forceBy 12 = .ok (.goto 4, 3) := by decide +kernel
theorem dX7_forceBy_15 : decode cX7_forceBy 15 = .ok (.iconst 0, 1) := by decide +kernel
theorem dX7_forceBy_16 : decode cX7_forceBy 16 = .ok (.ireturn, 1) := by decide +kernel
theorem dX7_dropsAt_0 : decode cX7_dropsAt 0 = .ok (.iconst 0, 1) := by decide +kernel
theorem dX7_dropsAt_1 : decode cX7_dropsAt 1 = .ok (.istore_n 2, 1) := by decide +kernel
theorem dX7_dropsAt_2 : decode cX7_dropsAt 2 = .ok (.iconst 0, 1) := by decide +kernel
theorem dX7_dropsAt_3 : decode cX7_dropsAt 3 = .ok (.istore_n 3, 1) := by decide +kernel
theorem dX7_dropsAt_4 : decode cX7_dropsAt 4 = .ok (.iload_n 3, 1) := by decide +kernel
theorem dX7_dropsAt_5 : decode cX7_dropsAt 5 = .ok (.aload_n 0, 1) := by decide +kernel
theorem dX7_dropsAt_6 : decode cX7_dropsAt 6 = .ok (.getfield 124, 3) := by decide +kernel
theorem dX7_dropsAt_9 : decode cX7_dropsAt 9 = .ok (.if_icmp .ge 37, 3) := by decide +kernel
theorem dX7_dropsAt_12 : decode cX7_dropsAt 12 = .ok (.iload_n 2, 1) := by decide +kernel
theorem dX7_dropsAt_13 : decode cX7_dropsAt 13 = .ok (.aload_n 0, 1) := by decide +kernel
theorem dX7_dropsAt_14 : decode cX7_dropsAt 14 = .ok (.getfield 31, 3) := by decide +kernel
theorem dX7_dropsAt_17 : decode cX7_dropsAt 17 = .ok (.iconst 2, 1) := by decide +kernel
theorem dX7_dropsAt_18 : decode cX7_dropsAt 18 = .ok (.iload_n 3, 1) := by decide +kernel
theorem dX7_dropsAt_19 : decode cX7_dropsAt 19 = .ok (.imul, 1) := by decide +kernel
theorem dX7_dropsAt_20 : decode cX7_dropsAt 20 = .ok (.iaload, 1) := by decide +kernel
theorem dX7_dropsAt_21 : decode cX7_dropsAt 21 = .ok (.aload_n 0, 1) := by decide +kernel
theorem dX7_dropsAt_22 : decode cX7_dropsAt 22 = .ok (.getfield 31, 3) := by decide +kernel
theorem dX7_dropsAt_25 : decode cX7_dropsAt 25 = .ok (.iconst 2, 1) := by decide +kernel
theorem dX7_dropsAt_26 : decode cX7_dropsAt 26 = .ok (.iload_n 3, 1) := by decide +kernel
theorem dX7_dropsAt_27 : decode cX7_dropsAt 27 = .ok (.imul, 1) := by decide +kernel
theorem dX7_dropsAt_28 : decode cX7_dropsAt 28 = .ok (.iconst 1, 1) := by decide +kernel
theorem dX7_dropsAt_29 : decode cX7_dropsAt 29 = .ok (.iadd, 1) := by decide +kernel
theorem dX7_dropsAt_30 : decode cX7_dropsAt 30 = .ok (.iaload, 1) := by decide +kernel
theorem dX7_dropsAt_31 : decode cX7_dropsAt 31 = .ok (.iload_n 1, 1) := by decide +kernel
theorem dX7_dropsAt_32 : decode cX7_dropsAt 32 = .ok (.invokestatic 148, 3) := by decide +kernel
theorem dX7_dropsAt_35 : decode cX7_dropsAt 35 = .ok (.invokestatic 152, 3) := by decide +kernel
