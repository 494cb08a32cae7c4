theorem dX6_see_14 : decode cX6_see 14 = .ok (.iload_n 2, 1) := by decide +kernel
theorem dX6_see_15 : decode cX6_see 15 = .ok (.invokestatic 151, 3) := by decide +kernel
theorem dX6_see_18 : decode cX6_see 18 = .ok (.ifCond .eq 13, 3) := by decide +kernel
theorem dX6_see_21 : decode cX6_see 21 = .ok (.iload_n 3, 1) := by decide +kernel
theorem dX6_see_22 : decode cX6_see 22 = .ok (.ifCond .lt 9, 3) := by decide +kernel
theorem dX6_see_25 : decode cX6_see 25 = .ok (.iload_n 3, 1) := by decide +kernel
theorem dX6_see_26 : decode cX6_see 26 = .ok (.bipush 99, 2) := by decide +kernel
theorem dX6_see_28 : decode cX6_see 28 = .ok (.if_icmp .le 6, 3) := by decide +kernel
theorem dX6_see_31 : decode cX6_see 31 = .ok (.bipush (-102), 2) := by decide +kernel
theorem dX6_see_33 : decode cX6_see 33 = .ok (.ireturn, 1) := by decide +kernel
theorem dX6_see_34 : decode cX6_see 34 = .ok (.aload_n 0, 1) := by decide +kernel
theorem dX6_see_35 : decode cX6_see 35 = .ok (.getfield 26, 3) := by decide +kernel
theorem dX6_see_38 : decode cX6_see 38 = .ok (.getfield 109, 3) := by decide +kernel
theorem dX6_see_41 : decode cX6_see 41 = .ok (.getfield 224, 3) := by decide +kernel
theorem dX6_see_44 : decode cX6_see 44 = .ok (.bipush 6, 2) := by decide +kernel
theorem dX6_see_46 : decode cX6_see 46 = .ok (.if_icmp .lt 6, 3) := by decide +kernel
theorem dX6_see_49 : decode cX6_see 49 = .ok (.bipush (-104), 2) := by decide +kernel
theorem dX6_see_51 : decode cX6_see 51 = .ok (.ireturn, 1) := by decide +kernel
theorem dX6_see_52 : decode cX6_see 52 = .ok (.aload_n 0, 1) := by decide +kernel
theorem dX6_see_53 : decode cX6_see 53 = .ok (.getfield 26, 3) := by decide +kernel
theorem dX6_see_56 : decode cX6_see 56 = .ok (.getfield 109, 3) := by decide +kernel
theorem dX6_see_59 : decode cX6_see 59 = .ok (.iload_n 1, 1) := by decide +kernel
theorem dX6_see_60 : decode cX6_see 60 = .ok (.iload_n 2, 1) := by decide +kernel
theorem dX6_see_61 : decode cX6_see 61 = .ok (.iload_n 3, 1) := by decide +kernel
theorem dX6_see_62 : decode cX6_see 62 = .ok (.invokevirtual 225, 3) := by decide +kernel
theorem dX6_see_65 : decode cX6_see 65 = .ok (.aload_n 0, 1) := by decide +kernel
theorem dX6_see_66 : decode cX6_see 66 = .ok (.getfield 26, 3) := by decide +kernel
theorem dX6_see_69 : decode cX6_see 69 = .ok (.getfield 109, 3) := by decide +kernel
theorem dX6_see_72 : decode cX6_see 72 = .ok (.getfield 224, 3) := by decide +kernel
theorem dX6_see_75 : decode cX6_see 75 = .ok (.ireturn, 1) := by decide +kernel
theorem dX6_forget_0 : decode cX6_forget 0 = .ok (.aload_n 0, 1) := by decide +kernel
theorem dX6_forget_1 : decode cX6_forget 1 = .ok (.getfield 26, 3) := by decide +kernel
theorem dX6_forget_4 : decode cX6_forget 4 = .ok (.getfield 109, 3) := by decide +kernel
theorem dX6_forget_7 : decode cX6_forget 7 = .ok (.getfield 224, 3) := by decide +kernel
theorem dX6_forget_10 : decode cX6_forget 10 = .ok (.istore_n 1, 1) := by decide +kernel
theorem dX6_forget_11 : decode cX6_forget 11 = .ok (.aload_n 0, 1) := by decide +kernel
theorem dX6_forget_12 : decode cX6_forget 12 = .ok (.getfield 26, 3) := by decide +kernel
theorem dX6_forget_15 : decode cX6_forget 15 = .ok (.getfield 109, 3) := by decide +kernel
theorem dX6_forget_18 : decode cX6_forget 18 = .ok (.iconst 0, 1) := by decide +kernel
theorem dX6_forget_19 : decode cX6_forget 19 = .ok (.putfield 224, 3) := by decide +kernel
theorem dX6_forget_22 : decode cX6_forget 22 = .ok (.iload_n 1, 1) := by decide +kernel
theorem dX6_forget_23 : decode cX6_forget 23 = .ok (.ireturn, 1) := by decide +kernel
theorem dX6_weeks_0 : decode cX6_weeks 0 = .ok (.iload_n 1, 1) := by decide +kernel
theorem dX6_weeks_1 : decode cX6_weeks 1 = .ok (.iconst 1, 1) := by decide +kernel
theorem dX6_weeks_2 : decode cX6_weeks 2 = .ok (.if_icmp .lt 22, 3) := by decide +kernel
theorem dX6_weeks_5 : decode cX6_weeks 5 = .ok (.iload_n 1, 1) := by decide +kernel
theorem dX6_weeks_6 : decode cX6_weeks 6 = .ok (.bipush 60, 2) := by decide +kernel
theorem dX6_weeks_8 : decode cX6_weeks 8 = .ok (.if_icmp .gt 16, 3) := by decide +kernel
theorem dX6_weeks_11 : decode cX6_weeks 11 = .ok (.iload_n 2, 1) := by decide +kernel
theorem dX6_weeks_12 : decode cX6_weeks 12 = .ok (.ifCond .lt 12, 3) := by decide +kernel
theorem dX6_weeks_15 : decode cX6_weeks 15 = .ok (.iload_n 3, 1) := by decide +kernel
theorem dX6_weeks_16 : decode cX6_weeks 16 = .ok (.ifCond .lt 8, 3) := by decide +kernel
theorem dX6_weeks_19 : decode cX6_weeks 19 = .ok (.iload_n 3, 1) := by decide +kernel
theorem dX6_weeks_20 : decode cX6_weeks 20 = .ok (.iconst 2, 1) := by decide +kernel
theorem dX6_weeks_21 : decode cX6_weeks 21 = .ok (.if_icmp .le 6, 3) := by decide +kernel
theorem dX6_weeks_24 : decode cX6_weeks 24 = .ok (.bipush (-102), 2) := by decide +kernel
theorem dX6_weeks_26 : decode cX6_weeks 26 = .ok (.ireturn, 1) := by decide +kernel
theorem dX6_weeks_27 : decode cX6_weeks 27 = .ok (.aload_n 0, 1) := by decide +kernel
theorem dX6_weeks_28 : decode cX6_weeks 28 = .ok (.getfield 19, 3) := by decide +kernel
theorem dX6_weeks_31 : decode cX6_weeks 31 = .ok (.invokevirtual 161, 3) := by decide +kernel
theorem dX6_weeks_34 : decode cX6_weeks 34 = .ok (.ifCond .ne 6, 3) := by decide +kernel
theorem dX6_weeks_37 : decode cX6_weeks 37 = .ok (.bipush (-103), 2) := by decide +kernel
theorem dX6_weeks_39 : decode cX6_weeks 39 = .ok (.ireturn, 1) := by decide +kernel
theorem dX6_weeks_40 : decode cX6_weeks 40 = .ok (.aload_n 0, 1) := by decide +kernel
theorem dX6_weeks_41 : decode cX6_weeks 41 = .ok (.getfield 36, 3) := by decide +kernel
theorem dX6_weeks_44 : decode cX6_weeks 44 = .ok (.aload_n 0, 1) := by decide +kernel
theorem dX6_weeks_45 : decode cX6_weeks 45 = .ok (.getfield 19, 3) := by decide +kernel
theorem dX6_weeks_48 : decode cX6_weeks 48 = .ok (.aload_n 0, 1) := by decide +kernel
theorem dX6_weeks_49 : decode cX6_weeks 49 = .ok (.getfield 26, 3) := by decide +kernel
theorem dX6_weeks_52 : decode cX6_weeks 52 = .ok (.iload_n 1, 1) := by decide +kernel
theorem dX6_weeks_53 : decode cX6_weeks 53 = .ok (.iload_n 2, 1) := by decide +kernel
theorem dX6_weeks_54 : decode cX6_weeks 54 = .ok (.invokevirtual 228, 3) := by decide +kernel
theorem dX6_weeks_57 : decode cX6_weeks 57 = .ok (.iload_n 3, 1) := by decide +kernel
theorem dX6_weeks_58 : decode cX6_weeks 58 = .ok (.ifCond .ne 11, 3) := by decide +kernel
theorem dX6_weeks_61 : decode cX6_weeks 61 = .ok (.aload_n 0, 1) := by decide +kernel
theorem dX6_weeks_62 : decode cX6_weeks 62 = .ok (.getfield 36, 3) := by decide +kernel
theorem dX6_weeks_65 : decode cX6_weeks 65 = .ok (.getfield 106, 3) := by decide +kernel
theorem dX6_weeks_68 : decode cX6_weeks 68 = .ok (.ireturn, 1) := by decide +kernel
theorem dX6_weeks_69 : decode cX6_weeks 69 = .ok (.iload_n 3, 1) := by decide +kernel
theorem dX6_weeks_70 : decode cX6_weeks 70 = .ok (.iconst 1, 1) := by decide +kernel
theorem dX6_weeks_71 : decode cX6_weeks 71 = .ok (.if_icmp .ne 16, 3) := by decide +kernel
theorem dX6_weeks_74 : decode cX6_weeks 74 = .ok (.aload_n 0, 1) := by decide +kernel
theorem dX6_weeks_75 : decode cX6_weeks 75 = .ok (.getfield 36, 3) := by decide +kernel
theorem dX6_weeks_78 : decode cX6_weeks 78 = .ok (.getfield 232, 3) := by decide +kernel
theorem dX6_weeks_81 : decode cX6_weeks 81 = .ok (.invokevirtual 235, 3) := by decide +kernel
theorem dX6_weeks_84 : decode cX6_weeks 84 = .ok (.goto 10, 3) := by decide +kernel
theorem dX6_weeks_87 : decode cX6_weeks 87 = .ok (.aload_n 0, 1) := by decide +kernel
theorem dX6_weeks_88 : decode cX6_weeks 88 = .ok (.getfield 36, 3) := by decide +kernel
theorem dX6_weeks_91 : decode cX6_weeks 91 = .ok (.getfield 238, 3) := by decide +kernel
theorem dX6_weeks_94 : decode cX6_weeks 94 = .ok (.ireturn, 1) := by decide +kernel
theorem dX6_image_0 : decode cX6_image 0 = .ok (.aload_n 0, 1) := by decide +kernel
theorem dX6_image_1 : decode cX6_image 1 = .ok (.getfield 19, 3) := by decide +kernel
theorem dX6_image_4 : decode cX6_image 4 = .ok (.invokevirtual 161, 3) := by decide +kernel
theorem dX6_image_7 : decode cX6_image 7 = .ok (.ifCond .ne 6, 3) := by decide +kernel
theorem dX6_image_10 : decode cX6_image 10 = .ok (.bipush (-103), 2) := by decide +kernel
theorem dX6_image_12 : decode cX6_image 12 = .ok (.ireturn, 1) := by decide +kernel
theorem dX6_image_13 : decode cX6_image 13 = .ok (.aload_n 0, 1) := by decide +kernel
theorem dX6_image_14 : decode cX6_image 14 = .ok (.getfield 30, 3) := by decide +kernel
theorem dX6_image_17 : decode cX6_image 17 = .ok (.aload_n 0, 1) := by decide +kernel
theorem dX6_image_18 : decode cX6_image 18 = .ok (.getfield 26, 3) := by decide +kernel
theorem dX6_image_21 : decode cX6_image 21 = .ok (.invokevirtual 241, 3) := by decide +kernel
theorem dX6_image_24 : decode cX6_image 24 = .ok (.aload_n 0, 1) := by decide +kernel
theorem dX6_image_25 : decode cX6_image 25 = .ok (.iconst 1, 1) := by decide +kernel
theorem dX6_image_26 : decode cX6_image 26 = .ok (.putfield 65, 3) := by decide +kernel
theorem dX6_image_29 : decode cX6_image 29 = .ok (.aload_n 0, 1) := by decide +kernel
theorem dX6_image_30 : decode cX6_image 30 = .ok (.getfield 26, 3) := by decide +kernel
theorem dX6_image_33 : decode cX6_image 33 = .ok (.getfield 164, 3) := by decide +kernel
theorem dX6_image_36 : decode cX6_image 36 = .ok (.ireturn, 1) := by decide +kernel
theorem dX6_restore_0 : decode cX6_restore 0 = .ok (.aload_n 0, 1) := by decide +kernel
theorem dX6_restore_1 : decode cX6_restore 1 = .ok (.getfield 65, 3) := by decide +kernel
theorem dX6_restore_4 : decode cX6_restore 4 = .ok (.ifCond .ne 6, 3) := by decide +kernel
theorem dX6_restore_7 : decode cX6_restore 7 = .ok (.bipush (-103), 2) := by decide +kernel
theorem dX6_restore_9 : decode cX6_restore 9 = .ok (.ireturn, 1) := by decide +kernel
theorem dX6_restore_10 : decode cX6_restore 10 = .ok (.aload_n 0, 1) := by decide +kernel
theorem dX6_restore_11 : decode cX6_restore 11 = .ok (.getfield 26, 3) := by decide +kernel
theorem dX6_restore_14 : decode cX6_restore 14 = .ok (.aload_n 0, 1) := by decide +kernel
theorem dX6_restore_15 : decode cX6_restore 15 = .ok (.getfield 30, 3) := by decide +kernel
theorem dX6_restore_18 : decode cX6_restore 18 = .ok (.invokevirtual 241, 3) := by decide +kernel
theorem dX6_restore_21 : decode cX6_restore 21 = .ok (.aload_n 0, 1) := by decide +kernel
theorem dX6_restore_22 : decode cX6_restore 22 = .ok (.getfield 26, 3) := by decide +kernel
theorem dX6_restore_25 : decode cX6_restore 25 = .ok (.getfield 164, 3) := by decide +kernel
theorem dX6_restore_28 : decode cX6_restore 28 = .ok (.ireturn, 1) := by decide +kernel
theorem dX6_count_0 : decode cX6_count 0 = .ok (.iload_n 1, 1) := by decide +kernel
theorem dX6_count_1 : decode cX6_count 1 = .ok (.tableswitch 202 0 14 #[75, 83, 91, 99, 110, 125, 136, 144, 152, 160, 168, 179, 187, 192, 197], 75) := by decide +kernel
theorem dX6_count_76 : decode cX6_count 76 = .ok (.aload_n 0, 1) := by decide +kernel
theorem dX6_count_77 : decode cX6_count 77 = .ok (.getfield 19, 3) := by decide +kernel
theorem dX6_count_80 : decode cX6_count 80 = .ok (.getfield 244, 3) := by decide +kernel
theorem dX6_count_83 : decode cX6_count 83 = .ok (.ireturn, 1) := by decide +kernel
theorem dX6_count_84 : decode cX6_count 84 = .ok (.aload_n 0, 1) := by decide +kernel
theorem dX6_count_85 : decode cX6_count 85 = .ok (.getfield 19, 3) := by decide +kernel
theorem dX6_count_88 : decode cX6_count 88 = .ok (.getfield 72, 3) := by decide +kernel
theorem dX6_count_91 : decode cX6_count 91 = .ok (.ireturn, 1) := by decide +kernel
theorem dX6_count_92 : decode cX6_count 92 = .ok (.aload_n 0, 1) := by decide +kernel
theorem dX6_count_93 : decode cX6_count 93 = .ok (.getfield 26, 3) := by decide +kernel
theorem dX6_count_96 : decode cX6_count 96 = .ok (.invokevirtual 235, 3) := by decide +kernel
theorem dX6_count_99 : decode cX6_count 99 = .ok (.ireturn, 1) := by decide +kernel
theorem dX6_count_100 : decode cX6_count 100 = .ok (.aload_n 0, 1) := by decide +kernel
theorem dX6_count_101 : decode cX6_count 101 = .ok (.getfield 26, 3) := by decide +kernel
theorem dX6_count_104 : decode cX6_count 104 = .ok (.getfield 175, 3) := by decide +kernel
theorem dX6_count_107 : decode cX6_count 107 = .ok (.invokestatic 178, 3) := by decide +kernel
theorem dX6_count_110 : decode cX6_count 110 = .ok (.ireturn, 1) := by decide +kernel
theorem dX6_count_111 : decode cX6_count 111 = .ok (.aload_n 0, 1) := by decide +kernel
theorem dX6_count_112 : decode cX6_count 112 = .ok (.getfield 19, 3) := by decide +kernel
theorem dX6_count_115 : decode cX6_count 115 = .ok (.aload_n 0, 1) := by decide +kernel
theorem dX6_count_116 : decode cX6_count 116 = .ok (.getfield 26, 3) := by decide +kernel
theorem dX6_count_119 : decode cX6_count 119 = .ok (.invokevirtual 171, 3) := by decide +kernel
theorem dX6_count_122 : decode cX6_count 122 = .ok (.invokestatic 178, 3) := by decide +kernel
theorem dX6_count_125 : decode cX6_count 125 = .ok (.ireturn, 1) := by decide +kernel
theorem dX6_count_126 : decode cX6_count 126 = .ok (.aload_n 0, 1) := by decide +kernel
theorem dX6_count_127 : decode cX6_count 127 = .ok (.getfield 26, 3) := by decide +kernel
theorem dX6_count_130 : decode cX6_count 130 = .ok (.invokevirtual 247, 3) := by decide +kernel
theorem dX6_count_133 : decode cX6_count 133 = .ok (.invokestatic 178, 3) := by decide +kernel
theorem dX6_count_136 : decode cX6_count 136 = .ok (.ireturn, 1) := by decide +kernel
theorem dX6_count_137 : decode cX6_count 137 = .ok (.aload_n 0, 1) := by decide +kernel
theorem dX6_count_138 : decode cX6_count 138 = .ok (.getfield 26, 3) := by decide +kernel
theorem dX6_count_141 : decode cX6_count 141 = .ok (.getfield 186, 3) := by decide +kernel
theorem dX6_count_144 : decode cX6_count 144 = .ok (.ireturn, 1) := by decide +kernel
theorem dX6_count_145 : decode cX6_count 145 = .ok (.aload_n 0, 1) := by decide +kernel
theorem dX6_count_146 : decode cX6_count 146 = .ok (.getfield 26, 3) := by decide +kernel
theorem dX6_count_149 : decode cX6_count 149 = .ok (.getfield 164, 3) := by decide +kernel
theorem dX6_count_152 : decode cX6_count 152 = .ok (.ireturn, 1) := by decide +kernel
theorem dX6_count_153 : decode cX6_count 153 = .ok (.aload_n 0, 1) := by decide +kernel
theorem dX6_count_154 : decode cX6_count 154 = .ok (.getfield 26, 3) := by decide +kernel
theorem dX6_count_157 : decode cX6_count 157 = .ok (.invokevirtual 250, 3) := by decide +kernel
theorem dX6_count_160 : decode cX6_count 160 = .ok (.ireturn, 1) := by decide +kernel
theorem dX6_count_161 : decode cX6_count 161 = .ok (.aload_n 0, 1) := by decide +kernel
theorem dX6_count_162 : decode cX6_count 162 = .ok (.getfield 26, 3) := by decide +kernel
theorem dX6_count_165 : decode cX6_count 165 = .ok (.getfield 183, 3) := by decide +kernel
theorem dX6_count_168 : decode cX6_count 168 = .ok (.ireturn, 1) := by decide +kernel
theorem dX6_count_169 : decode cX6_count 169 = .ok (.aload_n 0, 1) := by decide +kernel
theorem dX6_count_170 : decode cX6_count 170 = .ok (.getfield 26, 3) := by decide +kernel
theorem dX6_count_173 : decode cX6_count 173 = .ok (.getfield 109, 3) := by decide +kernel
theorem dX6_count_176 : decode cX6_count 176 = .ok (.getfield 224, 3) := by decide +kernel
theorem dX6_count_179 : decode cX6_count 179 = .ok (.ireturn, 1) := by decide +kernel
theorem dX6_count_180 : decode cX6_count 180 = .ok (.aload_n 0, 1) := by decide +kernel
theorem dX6_count_181 : decode cX6_count 181 = .ok (.getfield 10, 3) := by decide +kernel
theorem dX6_count_184 : decode cX6_count 184 = .ok (.getfield 40, 3) := by decide +kernel
theorem dX6_count_187 : decode cX6_count 187 = .ok (.ireturn, 1) := by decide +kernel
theorem dX6_count_188 : decode cX6_count 188 = .ok (.aload_n 0, 1) := by decide +kernel
theorem dX6_count_189 : decode cX6_count 189 = .ok (.getfield 69, 3) := by decide +kernel
theorem dX6_count_192 : decode cX6_count 192 = .ok (.ireturn, 1) := by decide +kernel
theorem dX6_count_193 : decode cX6_count 193 = .ok (.aload_n 0, 1) := by decide +kernel
theorem dX6_count_194 : decode cX6_count 194 = .ok (.getfield 205, 3) := by decide +kernel
theorem dX6_count_197 : decode cX6_count 197 = .ok (.ireturn, 1) := by decide +kernel
theorem dX6_count_198 : decode cX6_count 198 = .ok (.aload_n 0, 1) := by decide +kernel
theorem dX6_count_199 : decode cX6_count 199 = .ok (.getfield 215, 3) := by decide +kernel
theorem dX6_count_202 : decode cX6_count 202 = .ok (.ireturn, 1) := by decide +kernel
theorem dX6_count_203 : decode cX6_count 203 = .ok (.bipush (-102), 2) := by decide +kernel
theorem dX6_count_205 : decode cX6_count 205 = .ok (.ireturn, 1) := by decide +kernel
theorem dX6_digest_0 : decode cX6_digest 0 = .ok (.ldc2_w 253, 3) := by decide +kernel
theorem dX6_digest_3 : decode cX6_digest 3 = .ok (.lstore_n 1, 1) := by decide +kernel
theorem dX6_digest_4 : decode cX6_digest 4 = .ok (.iconst 0, 1) := by decide +kernel
theorem dX6_digest_5 : decode cX6_digest 5 = .ok (.istore_n 3, 1) := by decide +kernel
theorem dX6_digest_6 : decode cX6_digest 6 = .ok (.iload_n 3, 1) := by decide +kernel
theorem dX6_digest_7 : decode cX6_digest 7 = .ok (.aload_n 0, 1) := by decide +kernel
theorem dX6_digest_8 : decode cX6_digest 8 = .ok (.getfield 19, 3) := by decide +kernel
theorem dX6_digest_11 : decode cX6_digest 11 = .ok (.getfield 244, 3) := by decide +kernel
theorem dX6_digest_14 : decode cX6_digest 14 = .ok (.if_icmp .ge 54, 3) := by decide +kernel
theorem dX6_digest_17 : decode cX6_digest 17 = .ok (.iconst 0, 1) := by decide +kernel
theorem dX6_digest_18 : decode cX6_digest 18 = .ok (.istore 4, 2) := by decide +kernel
theorem dX6_digest_20 : decode cX6_digest 20 = .ok (.iload 4, 2) := by decide +kernel
theorem dX6_digest_22 : decode cX6_digest 22 = .ok (.bipush 13, 2) := by decide +kernel
theorem dX6_digest_24 : decode cX6_digest 24 = .ok (.if_icmp .ge 38, 3) := by decide +kernel
theorem dX6_digest_27 : decode cX6_digest 27 = .ok (.iload 4, 2) := by decide +kernel
theorem dX6_digest_29 : decode cX6_digest 29 = .ok (.bipush 8, 2) := by decide +kernel
theorem dX6_digest_31 : decode cX6_digest 31 = .ok (.if_icmp .le 10, 3) := by decide +kernel
theorem dX6_digest_34 : decode cX6_digest 34 = .ok (.iload 4, 2) := by decide +kernel
theorem dX6_digest_36 : decode cX6_digest 36 = .ok (.bipush 10, 2) := by decide +kernel
theorem dX6_digest_38 : decode cX6_digest 38 = .ok (.if_icmp .lt 18, 3) := by decide +kernel
theorem dX6_digest_41 : decode cX6_digest 41 = .ok (.ldc2_w 255, 3) := by decide +kernel
theorem dX6_digest_44 : decode cX6_digest 44 = .ok (.lload_n 1, 1) := by decide +kernel
theorem dX6_digest_45 : decode cX6_digest 45 = .ok (.lmul, 1) := by decide +kernel
theorem dX6_digest_46 : decode cX6_digest 46 = .ok (.aload_n 0, 1) := by decide +kernel
theorem dX6_digest_47 : decode cX6_digest 47 = .ok (.iload_n 3, 1) := by decide +kernel
theorem dX6_digest_48 : decode cX6_digest 48 = .ok (.iload 4, 2) := by decide +kernel
theorem dX6_digest_50 : decode cX6_digest 50 = .ok (.invokevirtual 257, 3) := by decide +kernel
theorem dX6_digest_53 : decode cX6_digest 53 = .ok (.i2l, 1) := by decide +kernel
theorem dX6_digest_54 : decode cX6_digest 54 = .ok (.ladd, 1) := by decide +kernel
theorem dX6_digest_55 : decode cX6_digest 55 = .ok (.lstore_n 1, 1) := by decide +kernel
theorem dX6_digest_56 : decode cX6_digest 56 = .ok (.iinc 4 1, 3) := by decide +kernel
theorem dX6_digest_59 : decode cX6_digest 59 = .ok (.goto (-39), 3) := by decide +kernel
theorem dX6_digest_62 : decode cX6_digest 62 = .ok (.iinc 3 1, 3) := by decide +kernel
theorem dX6_digest_65 : decode cX6_digest 65 = .ok (.goto (-59), 3) := by decide +kernel
theorem dX6_digest_68 : decode cX6_digest 68 = .ok (.iconst 0, 1) := by decide +kernel
theorem dX6_digest_69 : decode cX6_digest 69 = .ok (.istore_n 3, 1) := by decide +kernel
theorem dX6_digest_70 : decode cX6_digest 70 = .ok (.iload_n 3, 1) := by decide +kernel
theorem dX6_digest_71 : decode cX6_digest 71 = .ok (.aload_n 0, 1) := by decide +kernel
theorem dX6_digest_72 : decode cX6_digest 72 = .ok (.getfield 19, 3) := by decide +kernel
theorem dX6_digest_75 : decode cX6_digest 75 = .ok (.getfield 72, 3) := by decide +kernel
theorem dX6_digest_78 : decode cX6_digest 78 = .ok (.if_icmp .ge 40, 3) := by decide +kernel
theorem dX6_digest_81 : decode cX6_digest 81 = .ok (.iconst 0, 1) := by decide +kernel
theorem dX6_digest_82 : decode cX6_digest 82 = .ok (.istore 4, 2) := by decide +kernel
theorem dX6_digest_84 : decode cX6_digest 84 = .ok (.iload 4, 2) := by decide +kernel
theorem dX6_digest_86 : decode cX6_digest 86 = .ok (.bipush 7, 2) := by decide +kernel
theorem dX6_digest_88 : decode cX6_digest 88 = .ok (.if_icmp .ge 24, 3) := by decide +kernel
theorem dX6_digest_91 : decode cX6_digest 91 = .ok (.ldc2_w 255, 3) := by decide +kernel
theorem dX6_digest_94 : decode cX6_digest 94 = .ok (.lload_n 1, 1) := by decide +kernel
theorem dX6_digest_95 : decode cX6_digest 95 = .ok (.lmul, 1) := by decide +kernel
theorem dX6_digest_96 : decode cX6_digest 96 = .ok (.aload_n 0, 1) := by decide +kernel
theorem dX6_digest_97 : decode cX6_digest 97 = .ok (.iload_n 3, 1) := by decide +kernel
theorem dX6_digest_98 : decode cX6_digest 98 = .ok (.iload 4, 2) := by decide +kernel
theorem dX6_digest_100 : decode cX6_digest 100 = .ok (.invokevirtual 260, 3) := by decide +kernel
theorem dX6_digest_103 : decode cX6_digest 103 = .ok (.i2l, 1) := by decide +kernel
theorem dX6_digest_104 : decode cX6_digest 104 = .ok (.ladd, 1) := by decide +kernel
theorem dX6_digest_105 : decode cX6_digest 105 = .ok (.lstore_n 1, 1) := by decide +kernel
theorem dX6_digest_106 : decode cX6_digest 106 = .ok (.iinc 4 1, 3) := by decide +kernel
theorem dX6_digest_109 : decode cX6_digest 109 = .ok (.goto (-25), 3) := by decide +kernel
theorem dX6_digest_112 : decode cX6_digest 112 = .ok (.iinc 3 1, 3) := by decide +kernel
theorem dX6_digest_115 : decode cX6_digest 115 = .ok (.goto (-45), 3) := by decide +kernel
theorem dX6_digest_118 : decode cX6_digest 118 = .ok (.aload_n 0, 1) := by decide +kernel
theorem dX6_digest_119 : decode cX6_digest 119 = .ok (.getfield 19, 3) := by decide +kernel
theorem dX6_digest_122 : decode cX6_digest 122 = .ok (.invokevirtual 161, 3) := by decide +kernel
theorem dX6_digest_125 : decode cX6_digest 125 = .ok (.ifCond .eq 72, 3) := by decide +kernel
theorem dX6_digest_128 : decode cX6_digest 128 = .ok (.iconst 0, 1) := by decide +kernel
theorem dX6_digest_129 : decode cX6_digest 129 = .ok (.istore_n 3, 1) := by decide +kernel
theorem dX6_digest_130 : decode cX6_digest 130 = .ok (.iload_n 3, 1) := by decide +kernel
theorem dX6_digest_131 : decode cX6_digest 131 = .ok (.bipush 6, 2) := by decide +kernel
theorem dX6_digest_133 : decode cX6_digest 133 = .ok (.if_icmp .ge 22, 3) := by decide +kernel
theorem dX6_digest_136 : decode cX6_digest 136 = .ok (.ldc2_w 255, 3) := by decide +kernel
theorem dX6_digest_139 : decode cX6_digest 139 = .ok (.lload_n 1, 1) := by decide +kernel
theorem dX6_digest_140 : decode cX6_digest 140 = .ok (.lmul, 1) := by decide +kernel
theorem dX6_digest_141 : decode cX6_digest 141 = .ok (.aload_n 0, 1) := by decide +kernel
theorem dX6_digest_142 : decode cX6_digest 142 = .ok (.iload_n 3, 1) := by decide +kernel
theorem dX6_digest_143 : decode cX6_digest 143 = .ok (.invokevirtual 263, 3) := by decide +kernel
theorem dX6_digest_146 : decode cX6_digest 146 = .ok (.i2l, 1) := by decide +kernel
theorem dX6_digest_147 : decode cX6_digest 147 = .ok (.ladd, 1) := by decide +kernel
theorem dX6_digest_148 : decode cX6_digest 148 = .ok (.lstore_n 1, 1) := by decide +kernel
theorem dX6_digest_149 : decode cX6_digest 149 = .ok (.iinc 3 1, 3) := by decide +kernel
theorem dX6_digest_152 : decode cX6_digest 152 = .ok (.goto (-22), 3) := by decide +kernel
theorem dX6_digest_155 : decode cX6_digest 155 = .ok (.iconst 0, 1) := by decide +kernel
theorem dX6_digest_156 : decode cX6_digest 156 = .ok (.istore_n 3, 1) := by decide +kernel
theorem dX6_digest_157 : decode cX6_digest 157 = .ok (.iload_n 3, 1) := by decide +kernel
theorem dX6_digest_158 : decode cX6_digest 158 = .ok (.iconst 4, 1) := by decide +kernel
theorem dX6_digest_159 : decode cX6_digest 159 = .ok (.if_icmp .ge 22, 3) := by decide +kernel
theorem dX6_digest_162 : decode cX6_digest 162 = .ok (.ldc2_w 255, 3) := by decide +kernel
theorem dX6_digest_165 : decode cX6_digest 165 = .ok (.lload_n 1, 1) := by decide +kernel
theorem dX6_digest_166 : decode cX6_digest 166 = .ok (.lmul, 1) := by decide +kernel
theorem dX6_digest_167 : decode cX6_digest 167 = .ok (.aload_n 0, 1) := by decide +kernel
theorem dX6_digest_168 : decode cX6_digest 168 = .ok (.iload_n 3, 1) := by decide +kernel
theorem dX6_digest_169 : decode cX6_digest 169 = .ok (.invokevirtual 266, 3) := by decide +kernel
theorem dX6_digest_172 : decode cX6_digest 172 = .ok (.i2l, 1) := by decide +kernel
theorem dX6_digest_173 : decode cX6_digest 173 = .ok (.ladd, 1) := by decide +kernel
theorem dX6_digest_174 : decode cX6_digest 174 = .ok (.lstore_n 1, 1) := by decide +kernel
theorem dX6_digest_175 : decode cX6_digest 175 = .ok (.iinc 3 1, 3) := by decide +kernel
theorem dX6_digest_178 : decode cX6_digest 178 = .ok (.goto (-21), 3) := by decide +kernel
theorem dX6_digest_181 : decode cX6_digest 181 = .ok (.ldc2_w 255, 3) := by decide +kernel
theorem dX6_digest_184 : decode cX6_digest 184 = .ok (.lload_n 1, 1) := by decide +kernel
theorem dX6_digest_185 : decode cX6_digest 185 = .ok (.lmul, 1) := by decide +kernel
theorem dX6_digest_186 : decode cX6_digest 186 = .ok (.aload_n 0, 1) := by decide +kernel
theorem dX6_digest_187 : decode cX6_digest 187 = .ok (.aload_n 0, 1) := by decide +kernel
theorem dX6_digest_188 : decode cX6_digest 188 = .ok (.invokevirtual 269, 3) := by decide +kernel
theorem dX6_digest_191 : decode cX6_digest 191 = .ok (.invokevirtual 272, 3) := by decide +kernel
theorem dX6_digest_194 : decode cX6_digest 194 = .ok (.i2l, 1) := by decide +kernel
theorem dX6_digest_195 : decode cX6_digest 195 = .ok (.ladd, 1) := by decide +kernel
theorem dX6_digest_196 : decode cX6_digest 196 = .ok (.lstore_n 1, 1) := by decide +kernel
theorem dX6_digest_197 : decode cX6_digest 197 = .ok (.iconst 0, 1) := by decide +kernel
theorem dX6_digest_198 : decode cX6_digest 198 = .ok (.istore_n 3, 1) := by decide +kernel
theorem dX6_digest_199 : decode cX6_digest 199 = .ok (.iload_n 3, 1) := by decide +kernel
theorem dX6_digest_200 : decode cX6_digest 200 = .ok (.aload_n 0, 1) := by decide +kernel
theorem dX6_digest_201 : decode cX6_digest 201 = .ok (.getfield 10, 3) := by decide +kernel
theorem dX6_digest_204 : decode cX6_digest 204 = .ok (.getfield 40, 3) := by decide +kernel
theorem dX6_digest_207 : decode cX6_digest 207 = .ok (.if_icmp .ge 25, 3) := by decide +kernel
theorem dX6_digest_210 : decode cX6_digest 210 = .ok (.ldc2_w 255, 3) := by decide +kernel
theorem dX6_digest_213 : decode cX6_digest 213 = .ok (.lload_n 1, 1) := by decide +kernel
theorem dX6_digest_214 : decode cX6_digest 214 = .ok (.lmul, 1) := by decide +kernel
theorem dX6_digest_215 : decode cX6_digest 215 = .ok (.aload_n 0, 1) := by decide +kernel
theorem dX6_digest_216 : decode cX6_digest 216 = .ok (.getfield 10, 3) := by decide +kernel
theorem dX6_digest_219 : decode cX6_digest 219 = .ok (.iload_n 3, 1) := by decide +kernel
theorem dX6_digest_220 : decode cX6_digest 220 = .ok (.invokevirtual 275, 3) := by decide +kernel
theorem dX6_digest_223 : decode cX6_digest 223 = .ok (.i2l, 1) := by decide +kernel
theorem dX6_digest_224 : decode cX6_digest 224 = .ok (.ladd, 1) := by decide +kernel
theorem dX6_digest_225 : decode cX6_digest 225 = .ok (.lstore_n 1, 1) := by decide +kernel
theorem dX6_digest_226 : decode cX6_digest 226 = .ok (.iinc 3 1, 3) := by decide +kernel
theorem dX6_digest_229 : decode cX6_digest 229 = .ok (.goto (-30), 3) := by decide +kernel
theorem dX6_digest_232 : decode cX6_digest 232 = .ok (.iconst 0, 1) := by decide +kernel
theorem dX6_digest_233 : decode cX6_digest 233 = .ok (.istore_n 3, 1) := by decide +kernel
theorem dX6_digest_234 : decode cX6_digest 234 = .ok (.iload_n 3, 1) := by decide +kernel
theorem dX6_digest_235 : decode cX6_digest 235 = .ok (.bipush 15, 2) := by decide +kernel
theorem dX6_digest_237 : decode cX6_digest 237 = .ok (.if_icmp .ge 22, 3) := by decide +kernel
theorem dX6_digest_240 : decode cX6_digest 240 = .ok (.ldc2_w 255, 3) := by decide +kernel
theorem dX6_digest_243 : decode cX6_digest 243 = .ok (.lload_n 1, 1) := by decide +kernel
theorem dX6_digest_244 : decode cX6_digest 244 = .ok (.lmul, 1) := by decide +kernel
theorem dX6_digest_245 : decode cX6_digest 245 = .ok (.aload_n 0, 1) := by decide +kernel
theorem dX6_digest_246 : decode cX6_digest 246 = .ok (.iload_n 3, 1) := by decide +kernel
theorem dX6_digest_247 : decode cX6_digest 247 = .ok (.invokevirtual 278, 3) := by decide +kernel
theorem dX6_digest_250 : decode cX6_digest 250 = .ok (.i2l, 1) := by decide +kernel
theorem dX6_digest_251 : decode cX6_digest 251 = .ok (.ladd, 1) := by decide +kernel
theorem dX6_digest_252 : decode cX6_digest 252 = .ok (.lstore_n 1, 1) := by decide +kernel
theorem dX6_digest_253 : decode cX6_digest 253 = .ok (.iinc 3 1, 3) := by decide +kernel
theorem dX6_digest_256 : decode cX6_digest 256 = .ok (.goto (-22), 3) := by decide +kernel
theorem dX6_digest_259 : decode cX6_digest 259 = .ok (.lload_n 1, 1) := by decide +kernel
theorem dX6_digest_260 : decode cX6_digest 260 = .ok (.lreturn, 1) := by decide +kernel
theorem dX6_isSlight_0 : decode cX6_isSlight 0 = .ok (.iload_n 0, 1) := by decide +kernel
theorem dX6_isSlight_1 : decode cX6_isSlight 1 = .ok (.ifCond .lt 12, 3) := by decide +kernel
theorem dX6_isSlight_4 : decode cX6_isSlight 4 = .ok (.iload_n 0, 1) := by decide +kernel
theorem dX6_isSlight_5 : decode cX6_isSlight 5 = .ok (.iconst 3, 1) := by decide +kernel
theorem dX6_isSlight_6 : decode cX6_isSlight 6 = .ok (.if_icmp .ge 7, 3) := by decide +kernel
theorem dX6_isSlight_9 : decode cX6_isSlight 9 = .ok (.iconst 1, 1) := by decide +kernel
theorem dX6_isSlight_10 : decode cX6_isSlight 10 = .ok (.goto 4, 3) := by decide +kernel
theorem dX6_isSlight_13 : decode cX6_isSlight 13 = .ok (.iconst 0, 1) := by decide +kernel
theorem dX6_isSlight_14 : decode cX6_isSlight 14 = .ok (.ireturn, 1) := by decide +kernel
theorem dX6_isPlace_0 : decode cX6_isPlace 0 = .ok (.iload_n 0, 1) := by decide +kernel
theorem dX6_isPlace_1 : decode cX6_isPlace 1 = .ok (.ifCond .lt 13, 3) := by decide +kernel
theorem dX6_isPlace_4 : decode cX6_isPlace 4 = .ok (.iload_n 0, 1) := by decide +kernel
theorem dX6_isPlace_5 : decode cX6_isPlace 5 = .ok (.bipush 6, 2) := by decide +kernel
theorem dX6_isPlace_7 : decode cX6_isPlace 7 = .ok (.if_icmp .ge 7, 3) := by decide +kernel
theorem dX6_isPlace_10 : decode cX6_isPlace 10 = .ok (.iconst 1, 1) := by decide +kernel
theorem dX6_isPlace_11 : decode cX6_isPlace 11 = .ok (.goto 4, 3) := by decide +kernel
theorem dX6_isPlace_14 : decode cX6_isPlace 14 = .ok (.iconst 0, 1) := by decide +kernel
theorem dX6_isPlace_15 : decode cX6_isPlace 15 = .ok (.ireturn, 1) := by decide +kernel
theorem dX6_isRowPlace_0 : decode cX6_isRowPlace 0 = .ok (.iload_n 0, 1) := by decide +kernel
theorem dX6_isRowPlace_1 : decode cX6_isRowPlace 1 = .ok (.bipush 10, 2) := by decide +kernel
theorem dX6_isRowPlace_3 : decode cX6_isRowPlace 3 = .ok (.if_icmp .lt 13, 3) := by decide +kernel
theorem dX6_isRowPlace_6 : decode cX6_isRowPlace 6 = .ok (.iload_n 0, 1) := by decide +kernel
theorem dX6_isRowPlace_7 : decode cX6_isRowPlace 7 = .ok (.bipush 13, 2) := by decide +kernel
theorem dX6_isRowPlace_9 : decode cX6_isRowPlace 9 = .ok (.if_icmp .ge 7, 3) := by decide +kernel
theorem dX6_isRowPlace_12 : decode cX6_isRowPlace 12 = .ok (.iconst 1, 1) := by decide +kernel
theorem dX6_isRowPlace_13 : decode cX6_isRowPlace 13 = .ok (.goto 4, 3) := by decide +kernel
theorem dX6_isRowPlace_16 : decode cX6_isRowPlace 16 = .ok (.iconst 0, 1) := by decide +kernel
theorem dX6_isRowPlace_17 : decode cX6_isRowPlace 17 = .ok (.ireturn, 1) := by decide +kernel
theorem dX6_isRowTell_0 : decode cX6_isRowTell 0 = .ok (.iload_n 0, 1) := by decide +kernel
theorem dX6_isRowTell_1 : decode cX6_isRowTell 1 = .ok (.ifCond .eq 10, 3) := by decide +kernel
theorem dX6_isRowTell_4 : decode cX6_isRowTell 4 = .ok (.iload_n 0, 1) := by decide +kernel
theorem dX6_isRowTell_5 : decode cX6_isRowTell 5 = .ok (.invokestatic 79, 3) := by decide +kernel
theorem dX6_isRowTell_8 : decode cX6_isRowTell 8 = .ok (.ifCond .eq 7, 3) := by decide +kernel
theorem dX6_isRowTell_11 : decode cX6_isRowTell 11 = .ok (.iconst 1, 1) := by decide +kernel
theorem dX6_isRowTell_12 : decode cX6_isRowTell 12 = .ok (.goto 4, 3) := by decide +kernel
theorem dX6_isRowTell_15 : decode cX6_isRowTell 15 = .ok (.iconst 0, 1) := by decide +kernel
theorem dX6_isRowTell_16 : decode cX6_isRowTell 16 = .ok (.ireturn, 1) := by decide +kernel
theorem dX6_hasBottle_0 : decode cX6_hasBottle 0 = .ok (.aload_n 0, 1) := by decide +kernel
theorem dX6_hasBottle_1 : decode cX6_hasBottle 1 = .ok (.getfield 19, 3) := by decide +kernel
theorem dX6_hasBottle_4 : decode cX6_hasBottle 4 = .ok (.invokevirtual 161, 3) := by decide +kernel
theorem dX6_hasBottle_7 : decode cX6_hasBottle 7 = .ok (.ifCond .eq 16, 3) := by decide +kernel
theorem dX6_hasBottle_10 : decode cX6_hasBottle 10 = .ok (.iload_n 1, 1) := by decide +kernel
theorem dX6_hasBottle_11 : decode cX6_hasBottle 11 = .ok (.ifCond .lt 12, 3) := by decide +kernel
theorem dX6_hasBottle_14 : decode cX6_hasBottle 14 = .ok (.iload_n 1, 1) := by decide +kernel
theorem dX6_hasBottle_15 : decode cX6_hasBottle 15 = .ok (.iconst 4, 1) := by decide +kernel
theorem dX6_hasBottle_16 : decode cX6_hasBottle 16 = .ok (.if_icmp .ge 7, 3) := by decide +kernel
theorem dX6_hasBottle_19 : decode cX6_hasBottle 19 = .ok (.iconst 1, 1) := by decide +kernel
theorem dX6_hasBottle_20 : decode cX6_hasBottle 20 = .ok (.goto 4, 3) := by decide +kernel
theorem dX6_hasBottle_23 : decode cX6_hasBottle 23 = .ok (.iconst 0, 1) := by decide +kernel
theorem dX6_hasBottle_24 : decode cX6_hasBottle 24 = .ok (.ireturn, 1) := by decide +kernel
theorem dX6_bottlesFor_0 : decode cX6_bottlesFor 0 = .ok (.aload_n 0, 1) := by decide +kernel
theorem dX6_bottlesFor_1 : decode cX6_bottlesFor 1 = .ok (.getfield 19, 3) := by decide +kernel
theorem dX6_bottlesFor_4 : decode cX6_bottlesFor 4 = .ok (.getfield 130, 3) := by decide +kernel
theorem dX6_bottlesFor_7 : decode cX6_bottlesFor 7 = .ok (.iload_n 1, 1) := by decide +kernel
theorem dX6_bottlesFor_8 : decode cX6_bottlesFor 8 = .ok (.iaload, 1) := by decide +kernel
theorem dX6_bottlesFor_9 : decode cX6_bottlesFor 9 = .ok (.aload_n 0, 1) := by decide +kernel
theorem dX6_bottlesFor_10 : decode cX6_bottlesFor 10 = .ok (.getfield 26, 3) := by decide +kernel
theorem dX6_bottlesFor_13 : decode cX6_bottlesFor 13 = .ok (.iload_n 1, 1) := by decide +kernel
theorem dX6_bottlesFor_14 : decode cX6_bottlesFor 14 = .ok (.invokevirtual 133, 3) := by decide +kernel
theorem dX6_bottlesFor_17 : decode cX6_bottlesFor 17 = .ok (.isub, 1) := by decide +kernel
theorem dX6_bottlesFor_18 : decode cX6_bottlesFor 18 = .ok (.istore_n 2, 1) := by decide +kernel
theorem dX6_bottlesFor_19 : decode cX6_bottlesFor 19 = .ok (.iload_n 2, 1) := by decide +kernel
theorem dX6_bottlesFor_20 : decode cX6_bottlesFor 20 = .ok (.ifCond .gt 7, 3) := by decide +kernel
theorem dX6_bottlesFor_23 : decode cX6_bottlesFor 23 = .ok (.iconst 0, 1) := by decide +kernel
theorem dX6_bottlesFor_24 : decode cX6_bottlesFor 24 = .ok (.goto 11, 3) := by decide +kernel
theorem dX6_bottlesFor_27 : decode cX6_bottlesFor 27 = .ok (.aload_n 0, 1) := by decide +kernel
theorem dX6_bottlesFor_28 : decode cX6_bottlesFor 28 = .ok (.getfield 26, 3) := by decide +kernel
theorem dX6_bottlesFor_31 : decode cX6_bottlesFor 31 = .ok (.iload_n 2, 1) := by decide +kernel
theorem dX6_bottlesFor_32 : decode cX6_bottlesFor 32 = .ok (.invokevirtual 281, 3) := by decide +kernel
theorem dX6_bottlesFor_35 : decode cX6_bottlesFor 35 = .ok (.ireturn, 1) := by decide +kernel
theorem dX6_odds_0 : decode cX6_odds 0 = .ok (.aload_n 0, 1) := by decide +kernel
theorem dX6_odds_1 : decode cX6_odds 1 = .ok (.getfield 36, 3) := by decide +kernel
theorem dX6_odds_4 : decode cX6_odds 4 = .ok (.aload_n 0, 1) := by decide +kernel
theorem dX6_odds_5 : decode cX6_odds 5 = .ok (.getfield 19, 3) := by decide +kernel
theorem dX6_odds_8 : decode cX6_odds 8 = .ok (.aload_n 0, 1) := by decide +kernel
theorem dX6_odds_9 : decode cX6_odds 9 = .ok (.getfield 26, 3) := by decide +kernel
theorem dX6_odds_12 : decode cX6_odds 12 = .ok (.iload_n 1, 1) := by decide +kernel
theorem dX6_odds_13 : decode cX6_odds 13 = .ok (.invokevirtual 284, 3) := by decide +kernel
theorem dX6_odds_16 : decode cX6_odds 16 = .ok (.istore_n 3, 1) := by decide +kernel
theorem dX6_odds_17 : decode cX6_odds 17 = .ok (.aload_n 0, 1) := by decide +kernel
theorem dX6_odds_18 : decode cX6_odds 18 = .ok (.getfield 19, 3) := by decide +kernel
theorem dX6_odds_21 : decode cX6_odds 21 = .ok (.invokevirtual 287, 3) := by decide +kernel
theorem dX6_odds_24 : decode cX6_odds 24 = .ok (.istore 4, 2) := by decide +kernel
theorem dX6_odds_26 : decode cX6_odds 26 = .ok (.iload_n 3, 1) := by decide +kernel
theorem dX6_odds_27 : decode cX6_odds 27 = .ok (.iload 4, 2) := by decide +kernel
theorem dX6_odds_29 : decode cX6_odds 29 = .ok (.invokestatic 290, 3) := by decide +kernel
theorem dX6_odds_32 : decode cX6_odds 32 = .ok (.istore 5, 2) := by decide +kernel
theorem dX6_odds_34 : decode cX6_odds 34 = .ok (.iload 5, 2) := by decide +kernel
theorem dX6_odds_36 : decode cX6_odds 36 = .ok (.ifCond .ne 5, 3) := by decide +kernel
theorem dX6_odds_39 : decode cX6_odds 39 = .ok (.iconst 0, 1) := by decide +kernel
theorem dX6_odds_40 : decode cX6_odds 40 = .ok (.ireturn, 1) := by decide +kernel
theorem dX6_odds_41 : decode cX6_odds 41 = .ok (.iload_n 2, 1) := by decide +kernel
theorem dX6_odds_42 : decode cX6_odds 42 = .ok (.ifCond .eq 10, 3) := by decide +kernel
theorem dX6_odds_45 : decode cX6_odds 45 = .ok (.iload_n 3, 1) := by decide +kernel
theorem dX6_odds_46 : decode cX6_odds 46 = .ok (.iload 5, 2) := by decide +kernel
theorem dX6_odds_48 : decode cX6_odds 48 = .ok (.idiv, 1) := by decide +kernel
theorem dX6_odds_49 : decode cX6_odds 49 = .ok (.goto 8, 3) := by decide +kernel
theorem dX6_odds_52 : decode cX6_odds 52 = .ok (.iload 4, 2) := by decide +kernel
theorem dX6_odds_54 : decode cX6_odds 54 = .ok (.iload 5, 2) := by decide +kernel
theorem dX6_odds_56 : decode cX6_odds 56 = .ok (.idiv, 1) := by decide +kernel
theorem dX6_odds_57 : decode cX6_odds 57 = .ok (.ireturn, 1) := by decide +kernel
theorem dX6_commonDivisor_0 : decode cX6_commonDivisor 0 = .ok (.iload_n 0, 1) := by decide +kernel
theorem dX6_commonDivisor_1 : decode cX6_commonDivisor 1 = .ok (.istore_n 2, 1) := by decide +kernel
theorem dX6_commonDivisor_2 : decode cX6_commonDivisor 2 = .ok (.iload_n 1, 1) := by decide +kernel
theorem dX6_commonDivisor_3 : decode cX6_commonDivisor 3 = .ok (.istore_n 3, 1) := by decide +kernel
theorem dX6_commonDivisor_4 : decode cX6_commonDivisor 4 = .ok (.iconst 0, 1) := by decide +kernel
theorem dX6_commonDivisor_5 : decode cX6_commonDivisor 5 = .ok (.istore 4, 2) := by decide +kernel
theorem dX6_commonDivisor_7 : decode cX6_commonDivisor 7 = .ok (.iload 4, 2) := by decide +kernel
theorem dX6_commonDivisor_9 : decode cX6_commonDivisor 9 = .ok (.bipush 64, 2) := by decide +kernel
theorem dX6_commonDivisor_11 : decode cX6_commonDivisor 11 = .ok (.if_icmp .ge 23, 3) := by decide +kernel
theorem dX6_commonDivisor_14 : decode cX6_commonDivisor 14 = .ok (.iload_n 3, 1) := by decide +kernel
theorem dX6_commonDivisor_15 : decode cX6_commonDivisor 15 = .ok (.ifCond .eq 19, 3) := by decide +kernel
theorem dX6_commonDivisor_18 : decode cX6_commonDivisor 18 = .ok (.iload_n 2, 1) := by decide +kernel
theorem dX6_commonDivisor_19 : decode cX6_commonDivisor 19 = .ok (.iload_n 3, 1) := by decide +kernel
theorem dX6_commonDivisor_20 : decode cX6_commonDivisor 20 = .ok (.irem, 1) := by decide +kernel
theorem dX6_commonDivisor_21 : decode cX6_commonDivisor 21 = .ok (.istore 5, 2) := by decide +kernel
theorem dX6_commonDivisor_23 : decode cX6_commonDivisor 23 = .ok (.iload_n 3, 1) := by decide +kernel
theorem dX6_commonDivisor_24 : decode cX6_commonDivisor 24 = .ok (.istore_n 2, 1) := by decide +kernel
theorem dX6_commonDivisor_25 : decode cX6_commonDivisor 25 = .ok (.iload 5, 2) := by decide +kernel
theorem dX6_commonDivisor_27 : decode cX6_commonDivisor 27 = .ok (.istore_n 3, 1) := by decide +kernel
theorem dX6_commonDivisor_28 : decode cX6_commonDivisor 28 = .ok (.iinc 4 1, 3) := by decide +kernel
theorem dX6_commonDivisor_31 : decode cX6_commonDivisor 31 = .ok (.goto (-24), 3) := by decide +kernel
theorem dX6_commonDivisor_34 : decode cX6_commonDivisor 34 = .ok (.iload_n 2, 1) := by decide +kernel
theorem dX6_commonDivisor_35 : decode cX6_commonDivisor 35 = .ok (.ireturn, 1) := by decide +kernel
