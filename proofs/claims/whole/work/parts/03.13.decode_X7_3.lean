theorem dX7_tryOf_5 : decode cX7_tryOf 5 = .ok (.istore_n 2, 1) := by decide +kernel
theorem dX7_tryOf_6 : decode cX7_tryOf 6 = .ok (.iconst (-1), 1) := by decide +kernel
theorem dX7_tryOf_7 : decode cX7_tryOf 7 = .ok (.istore_n 3, 1) := by decide +kernel
theorem dX7_tryOf_8 : decode cX7_tryOf 8 = .ok (.bipush 10, 2) := by decide +kernel
theorem dX7_tryOf_10 : decode cX7_tryOf 10 = .ok (.istore 4, 2) := by decide +kernel
theorem dX7_tryOf_12 : decode cX7_tryOf 12 = .ok (.iconst 0, 1) := by decide +kernel
theorem dX7_tryOf_13 : decode cX7_tryOf 13 = .ok (.istore 5, 2) := by decide +kernel
theorem dX7_tryOf_15 : decode cX7_tryOf 15 = .ok (.iload 5, 2) := by decide +kernel
theorem dX7_tryOf_17 : decode cX7_tryOf 17 = .ok (.iconst 3, 1) := by decide +kernel
theorem dX7_tryOf_18 : decode cX7_tryOf 18 = .ok (.if_icmp .ge 147, 3) := by decide +kernel
theorem dX7_tryOf_21 : decode cX7_tryOf 21 = .ok (.iload_n 2, 1) := by decide +kernel
theorem dX7_tryOf_22 : decode cX7_tryOf 22 = .ok (.ifCond .eq 143, 3) := by decide +kernel
theorem dX7_tryOf_25 : decode cX7_tryOf 25 = .ok (.iconst 0, 1) := by decide +kernel
theorem dX7_tryOf_26 : decode cX7_tryOf 26 = .ok (.istore 6, 2) := by decide +kernel
theorem dX7_tryOf_28 : decode cX7_tryOf 28 = .ok (.iload 6, 2) := by decide +kernel
theorem dX7_tryOf_30 : decode cX7_tryOf 30 = .ok (.bipush 22, 2) := by decide +kernel
theorem dX7_tryOf_32 : decode cX7_tryOf 32 = .ok (.if_icmp .ge 17, 3) := by decide +kernel
theorem dX7_tryOf_35 : decode cX7_tryOf 35 = .ok (.aload_n 0, 1) := by decide +kernel
theorem dX7_tryOf_36 : decode cX7_tryOf 36 = .ok (.getfield 46, 3) := by decide +kernel
theorem dX7_tryOf_39 : decode cX7_tryOf 39 = .ok (.iload 6, 2) := by decide +kernel
theorem dX7_tryOf_41 : decode cX7_tryOf 41 = .ok (.iconst 0, 1) := by decide +kernel
theorem dX7_tryOf_42 : decode cX7_tryOf 42 = .ok (.iastore, 1) := by decide +kernel
theorem dX7_tryOf_43 : decode cX7_tryOf 43 = .ok (.iinc 6 1, 3) := by decide +kernel
theorem dX7_tryOf_46 : decode cX7_tryOf 46 = .ok (.goto (-18), 3) := by decide +kernel
theorem dX7_tryOf_49 : decode cX7_tryOf 49 = .ok (.iconst 0, 1) := by decide +kernel
theorem dX7_tryOf_50 : decode cX7_tryOf 50 = .ok (.istore 6, 2) := by decide +kernel
theorem dX7_tryOf_52 : decode cX7_tryOf 52 = .ok (.iconst 1, 1) := by decide +kernel
theorem dX7_tryOf_53 : decode cX7_tryOf 53 = .ok (.istore 7, 2) := by decide +kernel
theorem dX7_tryOf_55 : decode cX7_tryOf 55 = .ok (.iload 7, 2) := by decide +kernel
theorem dX7_tryOf_57 : decode cX7_tryOf 57 = .ok (.bipush 10, 2) := by decide +kernel
theorem dX7_tryOf_59 : decode cX7_tryOf 59 = .ok (.if_icmp .ge 70, 3) := by decide +kernel
theorem dX7_tryOf_62 : decode cX7_tryOf 62 = .ok (.aload_n 0, 1) := by decide +kernel
theorem dX7_tryOf_63 : decode cX7_tryOf 63 = .ok (.getfield 13, 3) := by decide +kernel
theorem dX7_tryOf_66 : decode cX7_tryOf 66 = .ok (.iconst 3, 1) := by decide +kernel
theorem dX7_tryOf_67 : decode cX7_tryOf 67 = .ok (.iload_n 1, 1) := by decide +kernel
theorem dX7_tryOf_68 : decode cX7_tryOf 68 = .ok (.imul, 1) := by decide +kernel
theorem dX7_tryOf_69 : decode cX7_tryOf 69 = .ok (.iaload, 1) := by decide +kernel
theorem dX7_tryOf_70 : decode cX7_tryOf 70 = .ok (.iload 7, 2) := by decide +kernel
theorem dX7_tryOf_72 : decode cX7_tryOf 72 = .ok (.iload 5, 2) := by decide +kernel
theorem dX7_tryOf_74 : decode cX7_tryOf 74 = .ok (.invokestatic 141, 3) := by decide +kernel
theorem dX7_tryOf_77 : decode cX7_tryOf 77 = .ok (.istore 8, 2) := by decide +kernel
theorem dX7_tryOf_79 : decode cX7_tryOf 79 = .ok (.aload_n 0, 1) := by decide +kernel
theorem dX7_tryOf_80 : decode cX7_tryOf 80 = .ok (.getfield 46, 3) := by decide +kernel
theorem dX7_tryOf_83 : decode cX7_tryOf 83 = .ok (.iload 8, 2) := by decide +kernel
theorem dX7_tryOf_85 : decode cX7_tryOf 85 = .ok (.dup2, 1) := by decide +kernel
theorem dX7_tryOf_86 : decode cX7_tryOf 86 = .ok (.iaload, 1) := by decide +kernel
theorem dX7_tryOf_87 : decode cX7_tryOf 87 = .ok (.iload_n 2, 1) := by decide +kernel
theorem dX7_tryOf_88 : decode cX7_tryOf 88 = .ok (.iload 7, 2) := by decide +kernel
theorem dX7_tryOf_90 : decode cX7_tryOf 90 = .ok (.iconst 1, 1) := by decide +kernel
theorem dX7_tryOf_91 : decode cX7_tryOf 91 = .ok (.isub, 1) := by decide +kernel
theorem dX7_tryOf_92 : decode cX7_tryOf 92 = .ok (.ishr, 1) := by decide +kernel
theorem dX7_tryOf_93 : decode cX7_tryOf 93 = .ok (.iconst 1, 1) := by decide +kernel
theorem dX7_tryOf_94 : decode cX7_tryOf 94 = .ok (.iand, 1) := by decide +kernel
theorem dX7_tryOf_95 : decode cX7_tryOf 95 = .ok (.iadd, 1) := by decide +kernel
theorem dX7_tryOf_96 : decode cX7_tryOf 96 = .ok (.iastore, 1) := by decide +kernel
theorem dX7_tryOf_97 : decode cX7_tryOf 97 = .ok (.aload_n 0, 1) := by decide +kernel
theorem dX7_tryOf_98 : decode cX7_tryOf 98 = .ok (.getfield 46, 3) := by decide +kernel
theorem dX7_tryOf_101 : decode cX7_tryOf 101 = .ok (.iload 8, 2) := by decide +kernel
theorem dX7_tryOf_103 : decode cX7_tryOf 103 = .ok (.iaload, 1) := by decide +kernel
theorem dX7_tryOf_104 : decode cX7_tryOf 104 = .ok (.iload 6, 2) := by decide +kernel
theorem dX7_tryOf_106 : decode cX7_tryOf 106 = .ok (.if_icmp .le 13, 3) := by decide +kernel
theorem dX7_tryOf_109 : decode cX7_tryOf 109 = .ok (.aload_n 0, 1) := by decide +kernel
theorem dX7_tryOf_110 : decode cX7_tryOf 110 = .ok (.getfield 46, 3) := by decide +kernel
theorem dX7_tryOf_113 : decode cX7_tryOf 113 = .ok (.iload 8, 2) := by decide +kernel
theorem dX7_tryOf_115 : decode cX7_tryOf 115 = .ok (.iaload, 1) := by decide +kernel
theorem dX7_tryOf_116 : decode cX7_tryOf 116 = .ok (.goto 5, 3) := by decide +kernel
theorem dX7_tryOf_119 : decode cX7_tryOf 119 = .ok (.iload 6, 2) := by decide +kernel
theorem dX7_tryOf_121 : decode cX7_tryOf 121 = .ok (.istore 6, 2) := by decide +kernel
theorem dX7_tryOf_123 : decode cX7_tryOf 123 = .ok (.iinc 7 1, 3) := by decide +kernel
theorem dX7_tryOf_126 : decode cX7_tryOf 126 = .ok (.goto (-71), 3) := by decide +kernel
theorem dX7_tryOf_129 : decode cX7_tryOf 129 = .ok (.iload 6, 2) := by decide +kernel
theorem dX7_tryOf_131 : decode cX7_tryOf 131 = .ok (.iload 4, 2) := by decide +kernel
theorem dX7_tryOf_133 : decode cX7_tryOf 133 = .ok (.if_icmp .ge 8, 3) := by decide +kernel
theorem dX7_tryOf_136 : decode cX7_tryOf 136 = .ok (.iload 5, 2) := by decide +kernel
theorem dX7_tryOf_138 : decode cX7_tryOf 138 = .ok (.goto 4, 3) := by decide +kernel
theorem dX7_tryOf_141 : decode cX7_tryOf 141 = .ok (.iload_n 3, 1) := by decide +kernel
theorem dX7_tryOf_142 : decode cX7_tryOf 142 = .ok (.istore_n 3, 1) := by decide +kernel
theorem dX7_tryOf_143 : decode cX7_tryOf 143 = .ok (.iload 6, 2) := by decide +kernel
theorem dX7_tryOf_145 : decode cX7_tryOf 145 = .ok (.iload 4, 2) := by decide +kernel
theorem dX7_tryOf_147 : decode cX7_tryOf 147 = .ok (.if_icmp .ge 8, 3) := by decide +kernel
theorem dX7_tryOf_150 : decode cX7_tryOf 150 = .ok (.iload 6, 2) := by decide +kernel
theorem dX7_tryOf_152 : decode cX7_tryOf 152 = .ok (.goto 5, 3) := by decide +kernel
theorem dX7_tryOf_155 : decode cX7_tryOf 155 = .ok (.iload 4, 2) := by decide +kernel
theorem dX7_tryOf_157 : decode cX7_tryOf 157 = .ok (.istore 4, 2) := by decide +kernel
theorem dX7_tryOf_159 : decode cX7_tryOf 159 = .ok (.iinc 5 1, 3) := by decide +kernel
theorem dX7_tryOf_162 : decode cX7_tryOf 162 = .ok (.goto (-147), 3) := by decide +kernel
theorem dX7_tryOf_165 : decode cX7_tryOf 165 = .ok (.iload_n 3, 1) := by decide +kernel
theorem dX7_tryOf_166 : decode cX7_tryOf 166 = .ok (.ireturn, 1) := by decide +kernel
theorem dX7_draw_0 : decode cX7_draw 0 = .ok (.aload_n 0, 1) := by decide +kernel
theorem dX7_draw_1 : decode cX7_draw 1 = .ok (.ldc2_w 273, 3) := by decide +kernel
theorem dX7_draw_4 : decode cX7_draw 4 = .ok (.aload_n 0, 1) := by decide +kernel
theorem dX7_draw_5 : decode cX7_draw 5 = .ok (.getfield 275, 3) := by decide +kernel
theorem dX7_draw_8 : decode cX7_draw 8 = .ok (.i2l, 1) := by decide +kernel
theorem dX7_draw_9 : decode cX7_draw 9 = .ok (.lmul, 1) := by decide +kernel
theorem dX7_draw_10 : decode cX7_draw 10 = .ok (.ldc2_w 278, 3) := by decide +kernel
theorem dX7_draw_13 : decode cX7_draw 13 = .ok (.ladd, 1) := by decide +kernel
theorem dX7_draw_14 : decode cX7_draw 14 = .ok (.ldc2_w 280, 3) := by decide +kernel
theorem dX7_draw_17 : decode cX7_draw 17 = .ok (.land, 1) := by decide +kernel
theorem dX7_draw_18 : decode cX7_draw 18 = .ok (.l2i, 1) := by decide +kernel
theorem dX7_draw_19 : decode cX7_draw 19 = .ok (.putfield 275, 3) := by decide +kernel
theorem dX7_draw_22 : decode cX7_draw 22 = .ok (.aload_n 0, 1) := by decide +kernel
theorem dX7_draw_23 : decode cX7_draw 23 = .ok (.getfield 275, 3) := by decide +kernel
theorem dX7_draw_26 : decode cX7_draw 26 = .ok (.ldc_w 282, 3) := by decide +kernel
theorem dX7_draw_29 : decode cX7_draw 29 = .ok (.idiv, 1) := by decide +kernel
theorem dX7_draw_30 : decode cX7_draw 30 = .ok (.iload_n 1, 1) := by decide +kernel
theorem dX7_draw_31 : decode cX7_draw 31 = .ok (.irem, 1) := by decide +kernel
theorem dX7_draw_32 : decode cX7_draw 32 = .ok (.ireturn, 1) := by decide +kernel
theorem dX7_weeks_0 : decode cX7_weeks 0 = .ok (.iload_n 1, 1) := by decide +kernel
theorem dX7_weeks_1 : decode cX7_weeks 1 = .ok (.i2l, 1) := by decide +kernel
theorem dX7_weeks_2 : decode cX7_weeks 2 = .ok (.lconst 1, 1) := by decide +kernel
theorem dX7_weeks_3 : decode cX7_weeks 3 = .ok (.ldc2_w 283, 3) := by decide +kernel
theorem dX7_weeks_6 : decode cX7_weeks 6 = .ok (.invokestatic 76, 3) := by decide +kernel
theorem dX7_weeks_9 : decode cX7_weeks 9 = .ok (.ifCond .eq 19, 3) := by decide +kernel
theorem dX7_weeks_12 : decode cX7_weeks 12 = .ok (.iload_n 2, 1) := by decide +kernel
theorem dX7_weeks_13 : decode cX7_weeks 13 = .ok (.ifCond .lt 15, 3) := by decide +kernel
theorem dX7_weeks_16 : decode cX7_weeks 16 = .ok (.iload_n 3, 1) := by decide +kernel
theorem dX7_weeks_17 : decode cX7_weeks 17 = .ok (.i2l, 1) := by decide +kernel
theorem dX7_weeks_18 : decode cX7_weeks 18 = .ok (.lconst 0, 1) := by decide +kernel
theorem dX7_weeks_19 : decode cX7_weeks 19 = .ok (.ldc2_w 231, 3) := by decide +kernel
theorem dX7_weeks_22 : decode cX7_weeks 22 = .ok (.invokestatic 76, 3) := by decide +kernel
theorem dX7_weeks_25 : decode cX7_weeks 25 = .ok (.ifCond .ne 6, 3) := by decide +kernel
theorem dX7_weeks_28 : decode cX7_weeks 28 = .ok (.bipush (-102), 2) := by decide +kernel
theorem dX7_weeks_30 : decode cX7_weeks 30 = .ok (.ireturn, 1) := by decide +kernel
theorem dX7_weeks_31 : decode cX7_weeks 31 = .ok (.aload_n 0, 1) := by decide +kernel
theorem dX7_weeks_32 : decode cX7_weeks 32 = .ok (.invokevirtual 133, 3) := by decide +kernel
theorem dX7_weeks_35 : decode cX7_weeks 35 = .ok (.ifCond .eq 6, 3) := by decide +kernel
theorem dX7_weeks_38 : decode cX7_weeks 38 = .ok (.bipush (-103), 2) := by decide +kernel
theorem dX7_weeks_40 : decode cX7_weeks 40 = .ok (.ireturn, 1) := by decide +kernel
theorem dX7_weeks_41 : decode cX7_weeks 41 = .ok (.aload_n 0, 1) := by decide +kernel
theorem dX7_weeks_42 : decode cX7_weeks 42 = .ok (.getfield 19, 3) := by decide +kernel
theorem dX7_weeks_45 : decode cX7_weeks 45 = .ok (.aload_n 0, 1) := by decide +kernel
theorem dX7_weeks_46 : decode cX7_weeks 46 = .ok (.getfield 34, 3) := by decide +kernel
theorem dX7_weeks_49 : decode cX7_weeks 49 = .ok (.invokestatic 205, 3) := by decide +kernel
theorem dX7_weeks_52 : decode cX7_weeks 52 = .ok (.aload_n 0, 1) := by decide +kernel
theorem dX7_weeks_53 : decode cX7_weeks 53 = .ok (.iload_n 2, 1) := by decide +kernel
theorem dX7_weeks_54 : decode cX7_weeks 54 = .ok (.putfield 275, 3) := by decide +kernel
theorem dX7_weeks_57 : decode cX7_weeks 57 = .ok (.iconst 0, 1) := by decide +kernel
theorem dX7_weeks_58 : decode cX7_weeks 58 = .ok (.istore 4, 2) := by decide +kernel
theorem dX7_weeks_60 : decode cX7_weeks 60 = .ok (.iconst 0, 1) := by decide +kernel
theorem dX7_weeks_61 : decode cX7_weeks 61 = .ok (.istore 5, 2) := by decide +kernel
theorem dX7_weeks_63 : decode cX7_weeks 63 = .ok (.iload 5, 2) := by decide +kernel
theorem dX7_weeks_65 : decode cX7_weeks 65 = .ok (.iload_n 1, 1) := by decide +kernel
theorem dX7_weeks_66 : decode cX7_weeks 66 = .ok (.if_icmp .ge 76, 3) := by decide +kernel
theorem dX7_weeks_69 : decode cX7_weeks 69 = .ok (.aload_n 0, 1) := by decide +kernel
theorem dX7_weeks_70 : decode cX7_weeks 70 = .ok (.aload_n 0, 1) := by decide +kernel
theorem dX7_weeks_71 : decode cX7_weeks 71 = .ok (.getfield 109, 3) := by decide +kernel
theorem dX7_weeks_74 : decode cX7_weeks 74 = .ok (.invokevirtual 285, 3) := by decide +kernel
theorem dX7_weeks_77 : decode cX7_weeks 77 = .ok (.istore 6, 2) := by decide +kernel
theorem dX7_weeks_79 : decode cX7_weeks 79 = .ok (.aload_n 0, 1) := by decide +kernel
theorem dX7_weeks_80 : decode cX7_weeks 80 = .ok (.iconst 4, 1) := by decide +kernel
theorem dX7_weeks_81 : decode cX7_weeks 81 = .ok (.invokevirtual 285, 3) := by decide +kernel
theorem dX7_weeks_84 : decode cX7_weeks 84 = .ok (.istore 7, 2) := by decide +kernel
theorem dX7_weeks_86 : decode cX7_weeks 86 = .ok (.aload_n 0, 1) := by decide +kernel
theorem dX7_weeks_87 : decode cX7_weeks 87 = .ok (.aload_n 0, 1) := by decide +kernel
theorem dX7_weeks_88 : decode cX7_weeks 88 = .ok (.getfield 34, 3) := by decide +kernel
theorem dX7_weeks_91 : decode cX7_weeks 91 = .ok (.iload 7, 2) := by decide +kernel
theorem dX7_weeks_93 : decode cX7_weeks 93 = .ok (.iconst 3, 1) := by decide +kernel
theorem dX7_weeks_94 : decode cX7_weeks 94 = .ok (.if_icmp .ne 7, 3) := by decide +kernel
theorem dX7_weeks_97 : decode cX7_weeks 97 = .ok (.iconst (-1), 1) := by decide +kernel
theorem dX7_weeks_98 : decode cX7_weeks 98 = .ok (.goto 10, 3) := by decide +kernel
theorem dX7_weeks_101 : decode cX7_weeks 101 = .ok (.iconst 3, 1) := by decide +kernel
theorem dX7_weeks_102 : decode cX7_weeks 102 = .ok (.iload 6, 2) := by decide +kernel
theorem dX7_weeks_104 : decode cX7_weeks 104 = .ok (.imul, 1) := by decide +kernel
theorem dX7_weeks_105 : decode cX7_weeks 105 = .ok (.iload 7, 2) := by decide +kernel
theorem dX7_weeks_107 : decode cX7_weeks 107 = .ok (.iadd, 1) := by decide +kernel
theorem dX7_weeks_108 : decode cX7_weeks 108 = .ok (.invokevirtual 209, 3) := by decide +kernel
theorem dX7_weeks_111 : decode cX7_weeks 111 = .ok (.iload 4, 2) := by decide +kernel
theorem dX7_weeks_113 : decode cX7_weeks 113 = .ok (.aload_n 0, 1) := by decide +kernel
theorem dX7_weeks_114 : decode cX7_weeks 114 = .ok (.aload_n 0, 1) := by decide +kernel
theorem dX7_weeks_115 : decode cX7_weeks 115 = .ok (.getfield 34, 3) := by decide +kernel
theorem dX7_weeks_118 : decode cX7_weeks 118 = .ok (.iconst 0, 1) := by decide +kernel
theorem dX7_weeks_119 : decode cX7_weeks 119 = .ok (.invokevirtual 162, 3) := by decide +kernel
theorem dX7_weeks_122 : decode cX7_weeks 122 = .ok (.invokestatic 169, 3) := by decide +kernel
theorem dX7_weeks_125 : decode cX7_weeks 125 = .ok (.iadd, 1) := by decide +kernel
theorem dX7_weeks_126 : decode cX7_weeks 126 = .ok (.istore 4, 2) := by decide +kernel
theorem dX7_weeks_128 : decode cX7_weeks 128 = .ok (.aload_n 0, 1) := by decide +kernel
theorem dX7_weeks_129 : decode cX7_weeks 129 = .ok (.aload_n 0, 1) := by decide +kernel
theorem dX7_weeks_130 : decode cX7_weeks 130 = .ok (.getfield 34, 3) := by decide +kernel
theorem dX7_weeks_133 : decode cX7_weeks 133 = .ok (.invokevirtual 236, 3) := by decide +kernel
theorem dX7_weeks_136 : decode cX7_weeks 136 = .ok (.iinc 5 1, 3) := by decide +kernel
theorem dX7_weeks_139 : decode cX7_weeks 139 = .ok (.goto (-76), 3) := by decide +kernel
theorem dX7_weeks_142 : decode cX7_weeks 142 = .ok (.iload_n 3, 1) := by decide +kernel
theorem dX7_weeks_143 : decode cX7_weeks 143 = .ok (.ifCond .ne 8, 3) := by decide +kernel
theorem dX7_weeks_146 : decode cX7_weeks 146 = .ok (.iload 4, 2) := by decide +kernel
theorem dX7_weeks_148 : decode cX7_weeks 148 = .ok (.goto 23, 3) := by decide +kernel
theorem dX7_weeks_151 : decode cX7_weeks 151 = .ok (.iload_n 3, 1) := by decide +kernel
theorem dX7_weeks_152 : decode cX7_weeks 152 = .ok (.iconst 1, 1) := by decide +kernel
theorem dX7_weeks_153 : decode cX7_weeks 153 = .ok (.if_icmp .ne 14, 3) := by decide +kernel
theorem dX7_weeks_156 : decode cX7_weeks 156 = .ok (.aload_n 0, 1) := by decide +kernel
theorem dX7_weeks_157 : decode cX7_weeks 157 = .ok (.aload_n 0, 1) := by decide +kernel
theorem dX7_weeks_158 : decode cX7_weeks 158 = .ok (.getfield 34, 3) := by decide +kernel
theorem dX7_weeks_161 : decode cX7_weeks 161 = .ok (.invokevirtual 288, 3) := by decide +kernel
theorem dX7_weeks_164 : decode cX7_weeks 164 = .ok (.goto 7, 3) := by decide +kernel
theorem dX7_weeks_167 : decode cX7_weeks 167 = .ok (.aload_n 0, 1) := by decide +kernel
theorem dX7_weeks_168 : decode cX7_weeks 168 = .ok (.getfield 275, 3) := by decide +kernel
theorem dX7_weeks_171 : decode cX7_weeks 171 = .ok (.ireturn, 1) := by decide +kernel
theorem dX7_image_0 : decode cX7_image 0 = .ok (.aload_n 0, 1) := by decide +kernel
theorem dX7_image_1 : decode cX7_image 1 = .ok (.invokevirtual 133, 3) := by decide +kernel
theorem dX7_image_4 : decode cX7_image 4 = .ok (.ifCond .eq 6, 3) := by decide +kernel
theorem dX7_image_7 : decode cX7_image 7 = .ok (.bipush (-103), 2) := by decide +kernel
theorem dX7_image_9 : decode cX7_image 9 = .ok (.ireturn, 1) := by decide +kernel
theorem dX7_image_10 : decode cX7_image 10 = .ok (.aload_n 0, 1) := by decide +kernel
theorem dX7_image_11 : decode cX7_image 11 = .ok (.getfield 13, 3) := by decide +kernel
theorem dX7_image_14 : decode cX7_image 14 = .ok (.aload_n 0, 1) := by decide +kernel
theorem dX7_image_15 : decode cX7_image 15 = .ok (.getfield 49, 3) := by decide +kernel
theorem dX7_image_18 : decode cX7_image 18 = .ok (.invokestatic 205, 3) := by decide +kernel
theorem dX7_image_21 : decode cX7_image 21 = .ok (.aload_n 0, 1) := by decide +kernel
theorem dX7_image_22 : decode cX7_image 22 = .ok (.getfield 16, 3) := by decide +kernel
theorem dX7_image_25 : decode cX7_image 25 = .ok (.aload_n 0, 1) := by decide +kernel
theorem dX7_image_26 : decode cX7_image 26 = .ok (.getfield 52, 3) := by decide +kernel
theorem dX7_image_29 : decode cX7_image 29 = .ok (.invokestatic 205, 3) := by decide +kernel
theorem dX7_image_32 : decode cX7_image 32 = .ok (.aload_n 0, 1) := by decide +kernel
theorem dX7_image_33 : decode cX7_image 33 = .ok (.getfield 19, 3) := by decide +kernel
theorem dX7_image_36 : decode cX7_image 36 = .ok (.aload_n 0, 1) := by decide +kernel
theorem dX7_image_37 : decode cX7_image 37 = .ok (.getfield 55, 3) := by decide +kernel
theorem dX7_image_40 : decode cX7_image 40 = .ok (.invokestatic 205, 3) := by decide +kernel
theorem dX7_image_43 : decode cX7_image 43 = .ok (.aload_n 0, 1) := by decide +kernel
theorem dX7_image_44 : decode cX7_image 44 = .ok (.getfield 25, 3) := by decide +kernel
theorem dX7_image_47 : decode cX7_image 47 = .ok (.aload_n 0, 1) := by decide +kernel
theorem dX7_image_48 : decode cX7_image 48 = .ok (.getfield 58, 3) := by decide +kernel
theorem dX7_image_51 : decode cX7_image 51 = .ok (.invokestatic 205, 3) := by decide +kernel
theorem dX7_image_54 : decode cX7_image 54 = .ok (.aload_n 0, 1) := by decide +kernel
theorem dX7_image_55 : decode cX7_image 55 = .ok (.getfield 28, 3) := by decide +kernel
theorem dX7_image_58 : decode cX7_image 58 = .ok (.aload_n 0, 1) := by decide +kernel
theorem dX7_image_59 : decode cX7_image 59 = .ok (.getfield 61, 3) := by decide +kernel
theorem dX7_image_62 : decode cX7_image 62 = .ok (.invokestatic 205, 3) := by decide +kernel
theorem dX7_image_65 : decode cX7_image 65 = .ok (.aload_n 0, 1) := by decide +kernel
theorem dX7_image_66 : decode cX7_image 66 = .ok (.getfield 31, 3) := by decide +kernel
theorem dX7_image_69 : decode cX7_image 69 = .ok (.aload_n 0, 1) := by decide +kernel
theorem dX7_image_70 : decode cX7_image 70 = .ok (.getfield 64, 3) := by decide +kernel
theorem dX7_image_73 : decode cX7_image 73 = .ok (.invokestatic 205, 3) := by decide +kernel
theorem dX7_image_76 : decode cX7_image 76 = .ok (.aload_n 0, 1) := by decide +kernel
theorem dX7_image_77 : decode cX7_image 77 = .ok (.getfield 43, 3) := by decide +kernel
theorem dX7_image_80 : decode cX7_image 80 = .ok (.aload_n 0, 1) := by decide +kernel
theorem dX7_image_81 : decode cX7_image 81 = .ok (.getfield 67, 3) := by decide +kernel
theorem dX7_image_84 : decode cX7_image 84 = .ok (.invokestatic 205, 3) := by decide +kernel
theorem dX7_image_87 : decode cX7_image 87 = .ok (.aload_n 0, 1) := by decide +kernel
theorem dX7_image_88 : decode cX7_image 88 = .ok (.aload_n 0, 1) := by decide +kernel
theorem dX7_image_89 : decode cX7_image 89 = .ok (.getfield 115, 3) := by decide +kernel
theorem dX7_image_92 : decode cX7_image 92 = .ok (.putfield 292, 3) := by decide +kernel
theorem dX7_image_95 : decode cX7_image 95 = .ok (.aload_n 0, 1) := by decide +kernel
theorem dX7_image_96 : decode cX7_image 96 = .ok (.aload_n 0, 1) := by decide +kernel
theorem dX7_image_97 : decode cX7_image 97 = .ok (.getfield 118, 3) := by decide +kernel
theorem dX7_image_100 : decode cX7_image 100 = .ok (.putfield 295, 3) := by decide +kernel
theorem dX7_image_103 : decode cX7_image 103 = .ok (.aload_n 0, 1) := by decide +kernel
theorem dX7_image_104 : decode cX7_image 104 = .ok (.aload_n 0, 1) := by decide +kernel
theorem dX7_image_105 : decode cX7_image 105 = .ok (.getfield 121, 3) := by decide +kernel
theorem dX7_image_108 : decode cX7_image 108 = .ok (.putfield 298, 3) := by decide +kernel
theorem dX7_image_111 : decode cX7_image 111 = .ok (.aload_n 0, 1) := by decide +kernel
theorem dX7_image_112 : decode cX7_image 112 = .ok (.aload_n 0, 1) := by decide +kernel
theorem dX7_image_113 : decode cX7_image 113 = .ok (.getfield 124, 3) := by decide +kernel
theorem dX7_image_116 : decode cX7_image 116 = .ok (.putfield 301, 3) := by decide +kernel
theorem dX7_image_119 : decode cX7_image 119 = .ok (.aload_n 0, 1) := by decide +kernel
theorem dX7_image_120 : decode cX7_image 120 = .ok (.aload_n 0, 1) := by decide +kernel
theorem dX7_image_121 : decode cX7_image 121 = .ok (.getfield 127, 3) := by decide +kernel
theorem dX7_image_124 : decode cX7_image 124 = .ok (.putfield 304, 3) := by decide +kernel
theorem dX7_image_127 : decode cX7_image 127 = .ok (.aload_n 0, 1) := by decide +kernel
theorem dX7_image_128 : decode cX7_image 128 = .ok (.aload_n 0, 1) := by decide +kernel
theorem dX7_image_129 : decode cX7_image 129 = .ok (.getfield 130, 3) := by decide +kernel
theorem dX7_image_132 : decode cX7_image 132 = .ok (.putfield 70, 3) := by decide +kernel
theorem dX7_image_135 : decode cX7_image 135 = .ok (.aload_n 0, 1) := by decide +kernel
theorem dX7_image_136 : decode cX7_image 136 = .ok (.getfield 115, 3) := by decide +kernel
theorem dX7_image_139 : decode cX7_image 139 = .ok (.ireturn, 1) := by decide +kernel
theorem dX7_restore_0 : decode cX7_restore 0 = .ok (.aload_n 0, 1) := by decide +kernel
theorem dX7_restore_1 : decode cX7_restore 1 = .ok (.getfield 70, 3) := by decide +kernel
theorem dX7_restore_4 : decode cX7_restore 4 = .ok (.aload_n 0, 1) := by decide +kernel
theorem dX7_restore_5 : decode cX7_restore 5 = .ok (.getfield 130, 3) := by decide +kernel
theorem dX7_restore_8 : decode cX7_restore 8 = .ok (.if_icmp .eq 6, 3) := by decide +kernel
theorem dX7_restore_11 : decode cX7_restore 11 = .ok (.bipush (-103), 2) := by decide +kernel
theorem dX7_restore_13 : decode cX7_restore 13 = .ok (.ireturn, 1) := by decide +kernel
theorem dX7_restore_14 : decode cX7_restore 14 = .ok (.aload_n 0, 1) := by decide +kernel
theorem dX7_restore_15 : decode cX7_restore 15 = .ok (.getfield 49, 3) := by decide +kernel
theorem dX7_restore_18 : decode cX7_restore 18 = .ok (.aload_n 0, 1) := by decide +kernel
theorem dX7_restore_19 : decode cX7_restore 19 = .ok (.getfield 13, 3) := by decide +kernel
theorem dX7_restore_22 : decode cX7_restore 22 = .ok (.invokestatic 205, 3) := by decide +kernel
theorem dX7_restore_25 : decode cX7_restore 25 = .ok (.aload_n 0, 1) := by decide +kernel
theorem dX7_restore_26 : decode cX7_restore 26 = .ok (.getfield 52, 3) := by decide +kernel
theorem dX7_restore_29 : decode cX7_restore 29 = .ok (.aload_n 0, 1) := by decide +kernel
theorem dX7_restore_30 : decode cX7_restore 30 = .ok (.getfield 16, 3) := by decide +kernel
theorem dX7_restore_33 : decode cX7_restore 33 = .ok (.invokestatic 205, 3) := by decide +kernel
theorem dX7_restore_36 : decode cX7_restore 36 = .ok (.aload_n 0, 1) := by decide +kernel
theorem dX7_restore_37 : decode cX7_restore 37 = .ok (.getfield 55, 3) := by decide +kernel
theorem dX7_restore_40 : decode cX7_restore 40 = .ok (.aload_n 0, 1) := by decide +kernel
theorem dX7_restore_41 : decode cX7_restore 41 = .ok (.getfield 19, 3) := by decide +kernel
theorem dX7_restore_44 : decode cX7_restore 44 = .ok (.invokestatic 205, 3) := by decide +kernel
theorem dX7_restore_47 : decode cX7_restore 47 = .ok (.aload_n 0, 1) := by decide +kernel
theorem dX7_restore_48 : decode cX7_restore 48 = .ok (.getfield 58, 3) := by decide +kernel
theorem dX7_restore_51 : decode cX7_restore 51 = .ok (.aload_n 0, 1) := by decide +kernel
theorem dX7_restore_52 : decode cX7_restore 52 = .ok (.getfield 25, 3) := by decide +kernel
theorem dX7_restore_55 : decode cX7_restore 55 = .ok (.invokestatic 205, 3) := by decide +kernel
theorem dX7_restore_58 : decode cX7_restore 58 = .ok (.aload_n 0, 1) := by decide +kernel
theorem dX7_restore_59 : decode cX7_restore 59 = .ok (.getfield 61, 3) := by decide +kernel
theorem dX7_restore_62 : decode cX7_restore 62 = .ok (.aload_n 0, 1) := by decide +kernel
theorem dX7_restore_63 : decode cX7_restore 63 = .ok (.getfield 28, 3) := by decide +kernel
theorem dX7_restore_66 : decode cX7_restore 66 = .ok (.invokestatic 205, 3) := by decide +kernel
theorem dX7_restore_69 : decode cX7_restore 69 = .ok (.aload_n 0, 1) := by decide +kernel
theorem dX7_restore_70 : decode cX7_restore 70 = .ok (.getfield 64, 3) := by decide +kernel
theorem dX7_restore_73 : decode cX7_restore 73 = .ok (.aload_n 0, 1) := by decide +kernel
theorem dX7_restore_74 : decode cX7_restore 74 = .ok (.getfield 31, 3) := by decide +kernel
theorem dX7_restore_77 : decode cX7_restore 77 = .ok (.invokestatic 205, 3) := by decide +kernel
theorem dX7_restore_80 : decode cX7_restore 80 = .ok (.aload_n 0, 1) := by decide +kernel
theorem dX7_restore_81 : decode cX7_restore 81 = .ok (.getfield 67, 3) := by decide +kernel
theorem dX7_restore_84 : decode cX7_restore 84 = .ok (.aload_n 0, 1) := by decide +kernel
theorem dX7_restore_85 : decode cX7_restore 85 = .ok (.getfield 43, 3) := by decide +kernel
theorem dX7_restore_88 : decode cX7_restore 88 = .ok (.invokestatic 205, 3) := by decide +kernel
theorem dX7_restore_91 : decode cX7_restore 91 = .ok (.aload_n 0, 1) := by decide +kernel
theorem dX7_restore_92 : decode cX7_restore 92 = .ok (.aload_n 0, 1) := by decide +kernel
theorem dX7_restore_93 : decode cX7_restore 93 = .ok (.getfield 292, 3) := by decide +kernel
theorem dX7_restore_96 : decode cX7_restore 96 = .ok (.putfield 115, 3) := by decide +kernel
theorem dX7_restore_99 : decode cX7_restore 99 = .ok (.aload_n 0, 1) := by decide +kernel
theorem dX7_restore_100 : decode cX7_restore 100 = .ok (.aload_n 0, 1) := by decide +kernel
theorem dX7_restore_101 : decode cX7_restore 101 = .ok (.getfield 295, 3) := by decide +kernel
theorem dX7_restore_104 : decode cX7_restore 104 = .ok (.putfield 118, 3) := by decide +kernel
theorem dX7_restore_107 : decode cX7_restore 107 = .ok (.aload_n 0, 1) := by decide +kernel
theorem dX7_restore_108 : decode cX7_restore 108 = .ok (.aload_n 0, 1) := by decide +kernel
theorem dX7_restore_109 : decode cX7_restore 109 = .ok (.getfield 298, 3) := by decide +kernel
theorem dX7_restore_112 : decode cX7_restore 112 = .ok (.putfield 121, 3) := by decide +kernel
theorem dX7_restore_115 : decode cX7_restore 115 = .ok (.aload_n 0, 1) := by decide +kernel
theorem dX7_restore_116 : decode cX7_restore 116 = .ok (.aload_n 0, 1) := by decide +kernel
theorem dX7_restore_117 : decode cX7_restore 117 = .ok (.getfield 301, 3) := by decide +kernel
theorem dX7_restore_120 : decode cX7_restore 120 = .ok (.putfield 124, 3) := by decide +kernel
theorem dX7_restore_123 : decode cX7_restore 123 = .ok (.aload_n 0, 1) := by decide +kernel
theorem dX7_restore_124 : decode cX7_restore 124 = .ok (.aload_n 0, 1) := by decide +kernel
theorem dX7_restore_125 : decode cX7_restore 125 = .ok (.getfield 304, 3) := by decide +kernel
theorem dX7_restore_128 : decode cX7_restore 128 = .ok (.putfield 127, 3) := by decide +kernel
theorem dX7_restore_131 : decode cX7_restore 131 = .ok (.aload_n 0, 1) := by decide +kernel
theorem dX7_restore_132 : decode cX7_restore 132 = .ok (.getfield 115, 3) := by decide +kernel
theorem dX7_restore_135 : decode cX7_restore 135 = .ok (.ireturn, 1) := by decide +kernel
theorem dX7_sumPeople_0 : decode cX7_sumPeople 0 = .ok (.iconst 0, 1) := by decide +kernel
theorem dX7_sumPeople_1 : decode cX7_sumPeople 1 = .ok (.istore_n 2, 1) := by decide +kernel
theorem dX7_sumPeople_2 : decode cX7_sumPeople 2 = .ok (.iconst 0, 1) := by decide +kernel
theorem dX7_sumPeople_3 : decode cX7_sumPeople 3 = .ok (.istore_n 3, 1) := by decide +kernel
theorem dX7_sumPeople_4 : decode cX7_sumPeople 4 = .ok (.iload_n 3, 1) := by decide +kernel
theorem dX7_sumPeople_5 : decode cX7_sumPeople 5 = .ok (.aload_n 0, 1) := by decide +kernel
theorem dX7_sumPeople_6 : decode cX7_sumPeople 6 = .ok (.getfield 109, 3) := by decide +kernel
theorem dX7_sumPeople_9 : decode cX7_sumPeople 9 = .ok (.if_icmp .ge 15, 3) := by decide +kernel
theorem dX7_sumPeople_12 : decode cX7_sumPeople 12 = .ok (.iload_n 2, 1) := by decide +kernel
theorem dX7_sumPeople_13 : decode cX7_sumPeople 13 = .ok (.aload_n 1, 1) := by decide +kernel
theorem dX7_sumPeople_14 : decode cX7_sumPeople 14 = .ok (.iload_n 3, 1) := by decide +kernel
theorem dX7_sumPeople_15 : decode cX7_sumPeople 15 = .ok (.iaload, 1) := by decide +kernel
theorem dX7_sumPeople_16 : decode cX7_sumPeople 16 = .ok (.iadd, 1) := by decide +kernel
theorem dX7_sumPeople_17 : decode cX7_sumPeople 17 = .ok (.istore_n 2, 1) := by decide +kernel
theorem dX7_sumPeople_18 : decode cX7_sumPeople 18 = .ok (.iinc 3 1, 3) := by decide +kernel
theorem dX7_sumPeople_21 : decode cX7_sumPeople 21 = .ok (.goto (-17), 3) := by decide +kernel
theorem dX7_sumPeople_24 : decode cX7_sumPeople 24 = .ok (.iload_n 2, 1) := by decide +kernel
theorem dX7_sumPeople_25 : decode cX7_sumPeople 25 = .ok (.ireturn, 1) := by decide +kernel
theorem dX7_setNow_0 : decode cX7_setNow 0 = .ok (.iconst 0, 1) := by decide +kernel
theorem dX7_setNow_1 : decode cX7_setNow 1 = .ok (.istore_n 1, 1) := by decide +kernel
theorem dX7_setNow_2 : decode cX7_setNow 2 = .ok (.iconst 0, 1) := by decide +kernel
theorem dX7_setNow_3 : decode cX7_setNow 3 = .ok (.istore_n 2, 1) := by decide +kernel
theorem dX7_setNow_4 : decode cX7_setNow 4 = .ok (.iload_n 2, 1) := by decide +kernel
theorem dX7_setNow_5 : decode cX7_setNow 5 = .ok (.aload_n 0, 1) := by decide +kernel
theorem dX7_setNow_6 : decode cX7_setNow 6 = .ok (.getfield 112, 3) := by decide +kernel
theorem dX7_setNow_9 : decode cX7_setNow 9 = .ok (.if_icmp .ge 18, 3) := by decide +kernel
theorem dX7_setNow_12 : decode cX7_setNow 12 = .ok (.iload_n 1, 1) := by decide +kernel
theorem dX7_setNow_13 : decode cX7_setNow 13 = .ok (.aload_n 0, 1) := by decide +kernel
theorem dX7_setNow_14 : decode cX7_setNow 14 = .ok (.getfield 25, 3) := by decide +kernel
theorem dX7_setNow_17 : decode cX7_setNow 17 = .ok (.iload_n 2, 1) := by decide +kernel
theorem dX7_setNow_18 : decode cX7_setNow 18 = .ok (.iaload, 1) := by decide +kernel
theorem dX7_setNow_19 : decode cX7_setNow 19 = .ok (.iadd, 1) := by decide +kernel
theorem dX7_setNow_20 : decode cX7_setNow 20 = .ok (.istore_n 1, 1) := by decide +kernel
theorem dX7_setNow_21 : decode cX7_setNow 21 = .ok (.iinc 2 1, 3) := by decide +kernel
theorem dX7_setNow_24 : decode cX7_setNow 24 = .ok (.goto (-20), 3) := by decide +kernel
theorem dX7_setNow_27 : decode cX7_setNow 27 = .ok (.iload_n 1, 1) := by decide +kernel
theorem dX7_setNow_28 : decode cX7_setNow 28 = .ok (.ireturn, 1) := by decide +kernel
theorem dX7_fullBottles_0 : decode cX7_fullBottles 0 = .ok (.iconst 0, 1) := by decide +kernel
theorem dX7_fullBottles_1 : decode cX7_fullBottles 1 = .ok (.istore_n 1, 1) := by decide +kernel
theorem dX7_fullBottles_2 : decode cX7_fullBottles 2 = .ok (.iconst 0, 1) := by decide +kernel
theorem dX7_fullBottles_3 : decode cX7_fullBottles 3 = .ok (.istore_n 2, 1) := by decide +kernel
theorem dX7_fullBottles_4 : decode cX7_fullBottles 4 = .ok (.iload_n 2, 1) := by decide +kernel
theorem dX7_fullBottles_5 : decode cX7_fullBottles 5 = .ok (.iconst 4, 1) := by decide +kernel
theorem dX7_fullBottles_6 : decode cX7_fullBottles 6 = .ok (.if_icmp .ge 26, 3) := by decide +kernel
theorem dX7_fullBottles_9 : decode cX7_fullBottles 9 = .ok (.iload_n 1, 1) := by decide +kernel
theorem dX7_fullBottles_10 : decode cX7_fullBottles 10 = .ok (.aload_n 0, 1) := by decide +kernel
theorem dX7_fullBottles_11 : decode cX7_fullBottles 11 = .ok (.getfield 28, 3) := by decide +kernel
theorem dX7_fullBottles_14 : decode cX7_fullBottles 14 = .ok (.iload_n 2, 1) := by decide +kernel
theorem dX7_fullBottles_15 : decode cX7_fullBottles 15 = .ok (.iaload, 1) := by decide +kernel
theorem dX7_fullBottles_16 : decode cX7_fullBottles 16 = .ok (.ifCond .le 7, 3) := by decide +kernel
theorem dX7_fullBottles_19 : decode cX7_fullBottles 19 = .ok (.iconst 1, 1) := by decide +kernel
theorem dX7_fullBottles_20 : decode cX7_fullBottles 20 = .ok (.goto 4, 3) := by decide +kernel
theorem dX7_fullBottles_23 : decode cX7_fullBottles 23 = .ok (.iconst 0, 1) := by decide +kernel
theorem dX7_fullBottles_24 : decode cX7_fullBottles 24 = .ok (.iadd, 1) := by decide +kernel
theorem dX7_fullBottles_25 : decode cX7_fullBottles 25 = .ok (.istore_n 1, 1) := by decide +kernel
theorem dX7_fullBottles_26 : decode cX7_fullBottles 26 = .ok (.iinc 2 1, 3) := by decide +kernel
theorem dX7_fullBottles_29 : decode cX7_fullBottles 29 = .ok (.goto (-25), 3) := by decide +kernel
theorem dX7_fullBottles_32 : decode cX7_fullBottles 32 = .ok (.iload_n 1, 1) := by decide +kernel
theorem dX7_fullBottles_33 : decode cX7_fullBottles 33 = .ok (.ireturn, 1) := by decide +kernel
theorem dX7_countOf_0 : decode cX7_countOf 0 = .ok (.iload_n 1, 1) := by decide +kernel
theorem dX7_countOf_1 : decode cX7_countOf 1 = .ok (.tableswitch 94 0 7 #[47, 52, 57, 66, 71, 79, 84, 89], 47) := by decide +kernel
theorem dX7_countOf_48 : decode cX7_countOf 48 = .ok (.aload_n 0, 1) := by decide +kernel
theorem dX7_countOf_49 : decode cX7_countOf 49 = .ok (.getfield 109, 3) := by decide +kernel
theorem dX7_countOf_52 : decode cX7_countOf 52 = .ok (.ireturn, 1) := by decide +kernel
theorem dX7_countOf_53 : decode cX7_countOf 53 = .ok (.aload_n 0, 1) := by decide +kernel
theorem dX7_countOf_54 : decode cX7_countOf 54 = .ok (.getfield 112, 3) := by decide +kernel
theorem dX7_countOf_57 : decode cX7_countOf 57 = .ok (.ireturn, 1) := by decide +kernel
theorem dX7_countOf_58 : decode cX7_countOf 58 = .ok (.aload_n 0, 1) := by decide +kernel
theorem dX7_countOf_59 : decode cX7_countOf 59 = .ok (.aload_n 0, 1) := by decide +kernel
theorem dX7_countOf_60 : decode cX7_countOf 60 = .ok (.getfield 19, 3) := by decide +kernel
theorem dX7_countOf_63 : decode cX7_countOf 63 = .ok (.invokevirtual 288, 3) := by decide +kernel
theorem dX7_countOf_66 : decode cX7_countOf 66 = .ok (.ireturn, 1) := by decide +kernel
theorem dX7_countOf_67 : decode cX7_countOf 67 = .ok (.aload_n 0, 1) := by decide +kernel
theorem dX7_countOf_68 : decode cX7_countOf 68 = .ok (.invokevirtual 307, 3) := by decide +kernel
theorem dX7_countOf_71 : decode cX7_countOf 71 = .ok (.ireturn, 1) := by decide +kernel
theorem dX7_countOf_72 : decode cX7_countOf 72 = .ok (.aload_n 0, 1) := by decide +kernel
theorem dX7_countOf_73 : decode cX7_countOf 73 = .ok (.invokevirtual 166, 3) := by decide +kernel
theorem dX7_countOf_76 : decode cX7_countOf 76 = .ok (.invokestatic 169, 3) := by decide +kernel
theorem dX7_countOf_79 : decode cX7_countOf 79 = .ok (.ireturn, 1) := by decide +kernel
theorem dX7_countOf_80 : decode cX7_countOf 80 = .ok (.aload_n 0, 1) := by decide +kernel
theorem dX7_countOf_81 : decode cX7_countOf 81 = .ok (.invokevirtual 310, 3) := by decide +kernel
theorem dX7_countOf_84 : decode cX7_countOf 84 = .ok (.ireturn, 1) := by decide +kernel
theorem dX7_countOf_85 : decode cX7_countOf 85 = .ok (.aload_n 0, 1) := by decide +kernel
theorem dX7_countOf_86 : decode cX7_countOf 86 = .ok (.getfield 124, 3) := by decide +kernel
theorem dX7_countOf_89 : decode cX7_countOf 89 = .ok (.ireturn, 1) := by decide +kernel
theorem dX7_countOf_90 : decode cX7_countOf 90 = .ok (.aload_n 0, 1) := by decide +kernel
theorem dX7_countOf_91 : decode cX7_countOf 91 = .ok (.getfield 115, 3) := by decide +kernel
theorem dX7_countOf_94 : decode cX7_countOf 94 = .ok (.ireturn, 1) := by decide +kernel
theorem dX7_countOf_95 : decode cX7_countOf 95 = .ok (.aload_n 0, 1) := by decide +kernel
theorem dX7_countOf_96 : decode cX7_countOf 96 = .ok (.iload_n 1, 1) := by decide +kernel
theorem dX7_countOf_97 : decode cX7_countOf 97 = .ok (.invokevirtual 313, 3) := by decide +kernel
theorem dX7_countOf_100 : decode cX7_countOf 100 = .ok (.ireturn, 1) := by decide +kernel
theorem dX7_countMore_0 : decode cX7_countMore 0 = .ok (.iload_n 1, 1) := by decide +kernel
theorem dX7_countMore_1 : decode cX7_countMore 1 = .ok (.tableswitch 78 8 14 #[43, 48, 53, 58, 63, 68, 73], 43) := by decide +kernel
theorem dX7_countMore_44 : decode cX7_countMore 44 = .ok (.aload_n 0, 1) := by decide +kernel
theorem dX7_countMore_45 : decode cX7_countMore 45 = .ok (.getfield 118, 3) := by decide +kernel
theorem dX7_countMore_48 : decode cX7_countMore 48 = .ok (.ireturn, 1) := by decide +kernel
theorem dX7_countMore_49 : decode cX7_countMore 49 = .ok (.aload_n 0, 1) := by decide +kernel
theorem dX7_countMore_50 : decode cX7_countMore 50 = .ok (.getfield 121, 3) := by decide +kernel
theorem dX7_countMore_53 : decode cX7_countMore 53 = .ok (.ireturn, 1) := by decide +kernel
theorem dX7_countMore_54 : decode cX7_countMore 54 = .ok (.aload_n 0, 1) := by decide +kernel
theorem dX7_countMore_55 : decode cX7_countMore 55 = .ok (.getfield 127, 3) := by decide +kernel
theorem dX7_countMore_58 : decode cX7_countMore 58 = .ok (.ireturn, 1) := by decide +kernel
theorem dX7_countMore_59 : decode cX7_countMore 59 = .ok (.aload_n 0, 1) := by decide +kernel
theorem dX7_countMore_60 : decode cX7_countMore 60 = .ok (.getfield 80, 3) := by decide +kernel
theorem dX7_countMore_63 : decode cX7_countMore 63 = .ok (.ireturn, 1) := by decide +kernel
theorem dX7_countMore_64 : decode cX7_countMore 64 = .ok (.aload_n 0, 1) := by decide +kernel
theorem dX7_countMore_65 : decode cX7_countMore 65 = .ok (.getfield 130, 3) := by decide +kernel
theorem dX7_countMore_68 : decode cX7_countMore 68 = .ok (.ireturn, 1) := by decide +kernel
theorem dX7_countMore_69 : decode cX7_countMore 69 = .ok (.aload_n 0, 1) := by decide +kernel
theorem dX7_countMore_70 : decode cX7_countMore 70 = .ok (.getfield 253, 3) := by decide +kernel
theorem dX7_countMore_73 : decode cX7_countMore 73 = .ok (.ireturn, 1) := by decide +kernel
theorem dX7_countMore_74 : decode cX7_countMore 74 = .ok (.aload_n 0, 1) := by decide +kernel
theorem dX7_countMore_75 : decode cX7_countMore 75 = .ok (.getfield 262, 3) := by decide +kernel
theorem dX7_countMore_78 : decode cX7_countMore 78 = .ok (.ireturn, 1) := by decide +kernel
theorem dX7_countMore_79 : decode cX7_countMore 79 = .ok (.bipush (-102), 2) := by decide +kernel
theorem dX7_countMore_81 : decode cX7_countMore 81 = .ok (.ireturn, 1) := by decide +kernel
theorem dX7_count_0 : decode cX7_count 0 = .ok (.aload_n 0, 1) := by decide +kernel
theorem dX7_count_1 : decode cX7_count 1 = .ok (.iload_n 1, 1) := by decide +kernel
theorem dX7_count_2 : decode cX7_count 2 = .ok (.invokevirtual 316, 3) := by decide +kernel
theorem dX7_count_5 : decode cX7_count 5 = .ok (.ireturn, 1) := by decide +kernel
theorem dX7_say_0 : decode cX7_say 0 = .ok (.aload_n 0, 1) := by decide +kernel
theorem dX7_say_1 : decode cX7_say 1 = .ok (.ldc2_w 319, 3) := by decide +kernel
theorem dX7_say_4 : decode cX7_say 4 = .ok (.aload_n 0, 1) := by decide +kernel
theorem dX7_say_5 : decode cX7_say 5 = .ok (.getfield 321, 3) := by decide +kernel
theorem dX7_say_8 : decode cX7_say 8 = .ok (.lmul, 1) := by decide +kernel
theorem dX7_say_9 : decode cX7_say 9 = .ok (.lload_n 1, 1) := by decide +kernel
theorem dX7_say_10 : decode cX7_say 10 = .ok (.ladd, 1) := by decide +kernel
theorem dX7_say_11 : decode cX7_say 11 = .ok (.putfield 321, 3) := by decide +kernel
theorem dX7_say_14 : decode cX7_say 14 = .ok (.return_, 1) := by decide +kernel
theorem dX7_sayValley_0 : decode cX7_sayValley 0 = .ok (.iconst 0, 1) := by decide +kernel
theorem dX7_sayValley_1 : decode cX7_sayValley 1 = .ok (.istore_n 1, 1) := by decide +kernel
theorem dX7_sayValley_2 : decode cX7_sayValley 2 = .ok (.iload_n 1, 1) := by decide +kernel
theorem dX7_sayValley_3 : decode cX7_sayValley 3 = .ok (.bipush 6, 2) := by decide +kernel
theorem dX7_sayValley_5 : decode cX7_sayValley 5 = .ok (.if_icmp .ge 19, 3) := by decide +kernel
theorem dX7_sayValley_8 : decode cX7_sayValley 8 = .ok (.aload_n 0, 1) := by decide +kernel
theorem dX7_sayValley_9 : decode cX7_sayValley 9 = .ok (.aload_n 0, 1) := by decide +kernel
theorem dX7_sayValley_10 : decode cX7_sayValley 10 = .ok (.iload_n 1, 1) := by decide +kernel
theorem dX7_sayValley_11 : decode cX7_sayValley 11 = .ok (.invokevirtual 196, 3) := by decide +kernel
theorem dX7_sayValley_14 : decode cX7_sayValley 14 = .ok (.i2l, 1) := by decide +kernel
theorem dX7_sayValley_15 : decode cX7_sayValley 15 = .ok (.invokevirtual 325, 3) := by decide +kernel
theorem dX7_sayValley_18 : decode cX7_sayValley 18 = .ok (.iinc 1 1, 3) := by decide +kernel
theorem dX7_sayValley_21 : decode cX7_sayValley 21 = .ok (.goto (-19), 3) := by decide +kernel
theorem dX7_sayValley_24 : decode cX7_sayValley 24 = .ok (.iconst 0, 1) := by decide +kernel
theorem dX7_sayValley_25 : decode cX7_sayValley 25 = .ok (.istore_n 1, 1) := by decide +kernel
theorem dX7_sayValley_26 : decode cX7_sayValley 26 = .ok (.iload_n 1, 1) := by decide +kernel
theorem dX7_sayValley_27 : decode cX7_sayValley 27 = .ok (.iconst 4, 1) := by decide +kernel
theorem dX7_sayValley_28 : decode cX7_sayValley 28 = .ok (.if_icmp .ge 20, 3) := by decide +kernel
theorem dX7_sayValley_31 : decode cX7_sayValley 31 = .ok (.aload_n 0, 1) := by decide +kernel
theorem dX7_sayValley_32 : decode cX7_sayValley 32 = .ok (.aload_n 0, 1) := by decide +kernel
theorem dX7_sayValley_33 : decode cX7_sayValley 33 = .ok (.getfield 28, 3) := by decide +kernel
theorem dX7_sayValley_36 : decode cX7_sayValley 36 = .ok (.iload_n 1, 1) := by decide +kernel
theorem dX7_sayValley_37 : decode cX7_sayValley 37 = .ok (.iaload, 1) := by decide +kernel
theorem dX7_sayValley_38 : decode cX7_sayValley 38 = .ok (.i2l, 1) := by decide +kernel
theorem dX7_sayValley_39 : decode cX7_sayValley 39 = .ok (.invokevirtual 325, 3) := by decide +kernel
theorem dX7_sayValley_42 : decode cX7_sayValley 42 = .ok (.iinc 1 1, 3) := by decide +kernel
theorem dX7_sayValley_45 : decode cX7_sayValley 45 = .ok (.goto (-19), 3) := by decide +kernel
theorem dX7_sayValley_48 : decode cX7_sayValley 48 = .ok (.aload_n 0, 1) := by decide +kernel
theorem dX7_sayValley_49 : decode cX7_sayValley 49 = .ok (.aload_n 0, 1) := by decide +kernel
theorem dX7_sayValley_50 : decode cX7_sayValley 50 = .ok (.aload_n 0, 1) := by decide +kernel
theorem dX7_sayValley_51 : decode cX7_sayValley 51 = .ok (.invokevirtual 166, 3) := by decide +kernel
theorem dX7_sayValley_54 : decode cX7_sayValley 54 = .ok (.invokevirtual 268, 3) := by decide +kernel
theorem dX7_sayValley_57 : decode cX7_sayValley 57 = .ok (.i2l, 1) := by decide +kernel
theorem dX7_sayValley_58 : decode cX7_sayValley 58 = .ok (.invokevirtual 325, 3) := by decide +kernel
theorem dX7_sayValley_61 : decode cX7_sayValley 61 = .ok (.return_, 1) := by decide +kernel
theorem dX7_digest_0 : decode cX7_digest 0 = .ok (.aload_n 0, 1) := by decide +kernel
theorem dX7_digest_1 : decode cX7_digest 1 = .ok (.ldc2_w 329, 3) := by decide +kernel
theorem dX7_digest_4 : decode cX7_digest 4 = .ok (.putfield 321, 3) := by decide +kernel
theorem dX7_digest_7 : decode cX7_digest 7 = .ok (.iconst 0, 1) := by decide +kernel
theorem dX7_digest_8 : decode cX7_digest 8 = .ok (.istore_n 1, 1) := by decide +kernel
theorem dX7_digest_9 : decode cX7_digest 9 = .ok (.iload_n 1, 1) := by decide +kernel
theorem dX7_digest_10 : decode cX7_digest 10 = .ok (.aload_n 0, 1) := by decide +kernel
theorem dX7_digest_11 : decode cX7_digest 11 = .ok (.getfield 109, 3) := by decide +kernel
theorem dX7_digest_14 : decode cX7_digest 14 = .ok (.if_icmp .ge 40, 3) := by decide +kernel
theorem dX7_digest_17 : decode cX7_digest 17 = .ok (.iconst 0, 1) := by decide +kernel
theorem dX7_digest_18 : decode cX7_digest 18 = .ok (.istore_n 2, 1) := by decide +kernel
theorem dX7_digest_19 : decode cX7_digest 19 = .ok (.iload_n 2, 1) := by decide +kernel
theorem dX7_digest_20 : decode cX7_digest 20 = .ok (.bipush 13, 2) := by decide +kernel
theorem dX7_digest_22 : decode cX7_digest 22 = .ok (.if_icmp .ge 26, 3) := by decide +kernel
theorem dX7_digest_25 : decode cX7_digest 25 = .ok (.iload_n 2, 1) := by decide +kernel
theorem dX7_digest_26 : decode cX7_digest 26 = .ok (.bipush 9, 2) := by decide +kernel
theorem dX7_digest_28 : decode cX7_digest 28 = .ok (.if_icmp .eq 14, 3) := by decide +kernel
theorem dX7_digest_31 : decode cX7_digest 31 = .ok (.aload_n 0, 1) := by decide +kernel
theorem dX7_digest_32 : decode cX7_digest 32 = .ok (.aload_n 0, 1) := by decide +kernel
theorem dX7_digest_33 : decode cX7_digest 33 = .ok (.iload_n 1, 1) := by decide +kernel
theorem dX7_digest_34 : decode cX7_digest 34 = .ok (.iload_n 2, 1) := by decide +kernel
theorem dX7_digest_35 : decode cX7_digest 35 = .ok (.invokevirtual 191, 3) := by decide +kernel
theorem dX7_digest_38 : decode cX7_digest 38 = .ok (.i2l, 1) := by decide +kernel
theorem dX7_digest_39 : decode cX7_digest 39 = .ok (.invokevirtual 325, 3) := by decide +kernel
theorem dX7_digest_42 : decode cX7_digest 42 = .ok (.iinc 2 1, 3) := by decide +kernel
theorem dX7_digest_45 : decode cX7_digest 45 = .ok (.goto (-26), 3) := by decide +kernel
theorem dX7_digest_48 : decode cX7_digest 48 = .ok (.iinc 1 1, 3) := by decide +kernel
theorem dX7_digest_51 : decode cX7_digest 51 = .ok (.goto (-42), 3) := by decide +kernel
theorem dX7_digest_54 : decode cX7_digest 54 = .ok (.iconst 0, 1) := by decide +kernel
theorem dX7_digest_55 : decode cX7_digest 55 = .ok (.istore_n 1, 1) := by decide +kernel
theorem dX7_digest_56 : decode cX7_digest 56 = .ok (.iload_n 1, 1) := by decide +kernel
theorem dX7_digest_57 : decode cX7_digest 57 = .ok (.aload_n 0, 1) := by decide +kernel
theorem dX7_digest_58 : decode cX7_digest 58 = .ok (.getfield 112, 3) := by decide +kernel
theorem dX7_digest_61 : decode cX7_digest 61 = .ok (.if_icmp .ge 34, 3) := by decide +kernel
theorem dX7_digest_64 : decode cX7_digest 64 = .ok (.iconst 0, 1) := by decide +kernel
theorem dX7_digest_65 : decode cX7_digest 65 = .ok (.istore_n 2, 1) := by decide +kernel
theorem dX7_digest_66 : decode cX7_digest 66 = .ok (.iload_n 2, 1) := by decide +kernel
theorem dX7_digest_67 : decode cX7_digest 67 = .ok (.bipush 7, 2) := by decide +kernel
theorem dX7_digest_69 : decode cX7_digest 69 = .ok (.if_icmp .ge 20, 3) := by decide +kernel
theorem dX7_digest_72 : decode cX7_digest 72 = .ok (.aload_n 0, 1) := by decide +kernel
theorem dX7_digest_73 : decode cX7_digest 73 = .ok (.aload_n 0, 1) := by decide +kernel
theorem dX7_digest_74 : decode cX7_digest 74 = .ok (.iload_n 1, 1) := by decide +kernel
theorem dX7_digest_75 : decode cX7_digest 75 = .ok (.iload_n 2, 1) := by decide +kernel
theorem dX7_digest_76 : decode cX7_digest 76 = .ok (.invokevirtual 228, 3) := by decide +kernel
theorem dX7_digest_79 : decode cX7_digest 79 = .ok (.i2l, 1) := by decide +kernel
theorem dX7_digest_80 : decode cX7_digest 80 = .ok (.invokevirtual 325, 3) := by decide +kernel
theorem dX7_digest_83 : decode cX7_digest 83 = .ok (.iinc 2 1, 3) := by decide +kernel
theorem dX7_digest_86 : decode cX7_digest 86 = .ok (.goto (-20), 3) := by decide +kernel
theorem dX7_digest_89 : decode cX7_digest 89 = .ok (.iinc 1 1, 3) := by decide +kernel
theorem dX7_digest_92 : decode cX7_digest 92 = .ok (.goto (-36), 3) := by decide +kernel
theorem dX7_digest_95 : decode cX7_digest 95 = .ok (.aload_n 0, 1) := by decide +kernel
theorem dX7_digest_96 : decode cX7_digest 96 = .ok (.invokevirtual 133, 3) := by decide +kernel
theorem dX7_digest_99 : decode cX7_digest 99 = .ok (.ifCond .ne 7, 3) := by decide +kernel
theorem dX7_digest_102 : decode cX7_digest 102 = .ok (.aload_n 0, 1) := by decide +kernel
theorem dX7_digest_103 : decode cX7_digest 103 = .ok (.invokevirtual 331, 3) := by decide +kernel
theorem dX7_digest_106 : decode cX7_digest 106 = .ok (.iconst 0, 1) := by decide +kernel
theorem dX7_digest_107 : decode cX7_digest 107 = .ok (.istore_n 1, 1) := by decide +kernel
theorem dX7_digest_108 : decode cX7_digest 108 = .ok (.iload_n 1, 1) := by decide +kernel
theorem dX7_digest_109 : decode cX7_digest 109 = .ok (.aload_n 0, 1) := by decide +kernel
theorem dX7_digest_110 : decode cX7_digest 110 = .ok (.getfield 80, 3) := by decide +kernel
theorem dX7_digest_113 : decode cX7_digest 113 = .ok (.if_icmp .ge 20, 3) := by decide +kernel
theorem dX7_digest_116 : decode cX7_digest 116 = .ok (.aload_n 0, 1) := by decide +kernel
theorem dX7_digest_117 : decode cX7_digest 117 = .ok (.aload_n 0, 1) := by decide +kernel
theorem dX7_digest_118 : decode cX7_digest 118 = .ok (.getfield 7, 3) := by decide +kernel
theorem dX7_digest_121 : decode cX7_digest 121 = .ok (.iload_n 1, 1) := by decide +kernel
theorem dX7_digest_122 : decode cX7_digest 122 = .ok (.iaload, 1) := by decide +kernel
theorem dX7_digest_123 : decode cX7_digest 123 = .ok (.i2l, 1) := by decide +kernel
theorem dX7_digest_124 : decode cX7_digest 124 = .ok (.invokevirtual 325, 3) := by decide +kernel
theorem dX7_digest_127 : decode cX7_digest 127 = .ok (.iinc 1 1, 3) := by decide +kernel
theorem dX7_digest_130 : decode cX7_digest 130 = .ok (.goto (-22), 3) := by decide +kernel
theorem dX7_digest_133 : decode cX7_digest 133 = .ok (.iconst 0, 1) := by decide +kernel
theorem dX7_digest_134 : decode cX7_digest 134 = .ok (.istore_n 1, 1) := by decide +kernel
theorem dX7_digest_135 : decode cX7_digest 135 = .ok (.iload_n 1, 1) := by decide +kernel
theorem dX7_digest_136 : decode cX7_digest 136 = .ok (.bipush 15, 2) := by decide +kernel
theorem dX7_digest_138 : decode cX7_digest 138 = .ok (.if_icmp .ge 19, 3) := by decide +kernel
theorem dX7_digest_141 : decode cX7_digest 141 = .ok (.aload_n 0, 1) := by decide +kernel
theorem dX7_digest_142 : decode cX7_digest 142 = .ok (.aload_n 0, 1) := by decide +kernel
theorem dX7_digest_143 : decode cX7_digest 143 = .ok (.iload_n 1, 1) := by decide +kernel
theorem dX7_digest_144 : decode cX7_digest 144 = .ok (.invokevirtual 316, 3) := by decide +kernel
theorem dX7_digest_147 : decode cX7_digest 147 = .ok (.i2l, 1) := by decide +kernel
theorem dX7_digest_148 : decode cX7_digest 148 = .ok (.invokevirtual 325, 3) := by decide +kernel
theorem dX7_digest_151 : decode cX7_digest 151 = .ok (.iinc 1 1, 3) := by decide +kernel
theorem dX7_digest_154 : decode cX7_digest 154 = .ok (.goto (-19), 3) := by decide +kernel
theorem dX7_digest_157 : decode cX7_digest 157 = .ok (.aload_n 0, 1) := by decide +kernel
theorem dX7_digest_158 : decode cX7_digest 158 = .ok (.getfield 321, 3) := by decide +kernel
theorem dX7_digest_161 : decode cX7_digest 161 = .ok (.lreturn, 1) := by decide +kernel
