theorem dX6_init_0 : decode cX6_init 0 = .ok (.aload_n 0, 1) := by decide +kernel
theorem dX6_init_1 : decode cX6_init 1 = .ok (.invokespecial 1, 3) := by decide +kernel
theorem dX6_init_4 : decode cX6_init 4 = .ok (.aload_n 0, 1) := by decide +kernel
theorem dX6_init_5 : decode cX6_init 5 = .ok (.new 7, 3) := by decide +kernel
theorem dX6_init_8 : decode cX6_init 8 = .ok (.dup, 1) := by decide +kernel
theorem dX6_init_9 : decode cX6_init 9 = .ok (.invokespecial 9, 3) := by decide +kernel
theorem dX6_init_12 : decode cX6_init 12 = .ok (.putfield 10, 3) := by decide +kernel
theorem dX6_init_15 : decode cX6_init 15 = .ok (.aload_n 0, 1) := by decide +kernel
theorem dX6_init_16 : decode cX6_init 16 = .ok (.new 16, 3) := by decide +kernel
theorem dX6_init_19 : decode cX6_init 19 = .ok (.dup, 1) := by decide +kernel
theorem dX6_init_20 : decode cX6_init 20 = .ok (.invokespecial 18, 3) := by decide +kernel
theorem dX6_init_23 : decode cX6_init 23 = .ok (.putfield 19, 3) := by decide +kernel
theorem dX6_init_26 : decode cX6_init 26 = .ok (.aload_n 0, 1) := by decide +kernel
theorem dX6_init_27 : decode cX6_init 27 = .ok (.new 23, 3) := by decide +kernel
theorem dX6_init_30 : decode cX6_init 30 = .ok (.dup, 1) := by decide +kernel
theorem dX6_init_31 : decode cX6_init 31 = .ok (.invokespecial 25, 3) := by decide +kernel
theorem dX6_init_34 : decode cX6_init 34 = .ok (.putfield 26, 3) := by decide +kernel
theorem dX6_init_37 : decode cX6_init 37 = .ok (.aload_n 0, 1) := by decide +kernel
theorem dX6_init_38 : decode cX6_init 38 = .ok (.new 23, 3) := by decide +kernel
theorem dX6_init_41 : decode cX6_init 41 = .ok (.dup, 1) := by decide +kernel
theorem dX6_init_42 : decode cX6_init 42 = .ok (.invokespecial 25, 3) := by decide +kernel
theorem dX6_init_45 : decode cX6_init 45 = .ok (.putfield 30, 3) := by decide +kernel
theorem dX6_init_48 : decode cX6_init 48 = .ok (.aload_n 0, 1) := by decide +kernel
theorem dX6_init_49 : decode cX6_init 49 = .ok (.new 33, 3) := by decide +kernel
theorem dX6_init_52 : decode cX6_init 52 = .ok (.dup, 1) := by decide +kernel
theorem dX6_init_53 : decode cX6_init 53 = .ok (.invokespecial 35, 3) := by decide +kernel
theorem dX6_init_56 : decode cX6_init 56 = .ok (.putfield 36, 3) := by decide +kernel
theorem dX6_init_59 : decode cX6_init 59 = .ok (.return_, 1) := by decide +kernel
theorem dX6_letter_0 : decode cX6_letter 0 = .ok (.iload_n 1, 1) := by decide +kernel
theorem dX6_letter_1 : decode cX6_letter 1 = .ok (.iconst 1, 1) := by decide +kernel
theorem dX6_letter_2 : decode cX6_letter 2 = .ok (.if_icmp .lt 9, 3) := by decide +kernel
theorem dX6_letter_5 : decode cX6_letter 5 = .ok (.iload_n 1, 1) := by decide +kernel
theorem dX6_letter_6 : decode cX6_letter 6 = .ok (.bipush 126, 2) := by decide +kernel
theorem dX6_letter_8 : decode cX6_letter 8 = .ok (.if_icmp .le 6, 3) := by decide +kernel
theorem dX6_letter_11 : decode cX6_letter 11 = .ok (.bipush (-102), 2) := by decide +kernel
theorem dX6_letter_13 : decode cX6_letter 13 = .ok (.ireturn, 1) := by decide +kernel
theorem dX6_letter_14 : decode cX6_letter 14 = .ok (.aload_n 0, 1) := by decide +kernel
theorem dX6_letter_15 : decode cX6_letter 15 = .ok (.getfield 10, 3) := by decide +kernel
theorem dX6_letter_18 : decode cX6_letter 18 = .ok (.getfield 40, 3) := by decide +kernel
theorem dX6_letter_21 : decode cX6_letter 21 = .ok (.bipush 24, 2) := by decide +kernel
theorem dX6_letter_23 : decode cX6_letter 23 = .ok (.if_icmp .lt 6, 3) := by decide +kernel
theorem dX6_letter_26 : decode cX6_letter 26 = .ok (.bipush (-104), 2) := by decide +kernel
theorem dX6_letter_28 : decode cX6_letter 28 = .ok (.ireturn, 1) := by decide +kernel
theorem dX6_letter_29 : decode cX6_letter 29 = .ok (.aload_n 0, 1) := by decide +kernel
theorem dX6_letter_30 : decode cX6_letter 30 = .ok (.getfield 10, 3) := by decide +kernel
theorem dX6_letter_33 : decode cX6_letter 33 = .ok (.iload_n 1, 1) := by decide +kernel
theorem dX6_letter_34 : decode cX6_letter 34 = .ok (.invokevirtual 44, 3) := by decide +kernel
theorem dX6_letter_37 : decode cX6_letter 37 = .ok (.aload_n 0, 1) := by decide +kernel
theorem dX6_letter_38 : decode cX6_letter 38 = .ok (.getfield 10, 3) := by decide +kernel
theorem dX6_letter_41 : decode cX6_letter 41 = .ok (.getfield 40, 3) := by decide +kernel
theorem dX6_letter_44 : decode cX6_letter 44 = .ok (.ireturn, 1) := by decide +kernel
theorem dX6_blank_0 : decode cX6_blank 0 = .ok (.aload_n 0, 1) := by decide +kernel
theorem dX6_blank_1 : decode cX6_blank 1 = .ok (.getfield 10, 3) := by decide +kernel
theorem dX6_blank_4 : decode cX6_blank 4 = .ok (.invokevirtual 48, 3) := by decide +kernel
theorem dX6_blank_7 : decode cX6_blank 7 = .ok (.ireturn, 1) := by decide +kernel
theorem dX6_fault_0 : decode cX6_fault 0 = .ok (.aload_n 0, 1) := by decide +kernel
theorem dX6_fault_1 : decode cX6_fault 1 = .ok (.getfield 10, 3) := by decide +kernel
theorem dX6_fault_4 : decode cX6_fault 4 = .ok (.invokevirtual 52, 3) := by decide +kernel
theorem dX6_fault_7 : decode cX6_fault 7 = .ok (.ireturn, 1) := by decide +kernel
theorem dX6_valley_0 : decode cX6_valley 0 = .ok (.aload_n 0, 1) := by decide +kernel
theorem dX6_valley_1 : decode cX6_valley 1 = .ok (.getfield 10, 3) := by decide +kernel
theorem dX6_valley_4 : decode cX6_valley 4 = .ok (.invokevirtual 55, 3) := by decide +kernel
theorem dX6_valley_7 : decode cX6_valley 7 = .ok (.ifCond .ne 6, 3) := by decide +kernel
theorem dX6_valley_10 : decode cX6_valley 10 = .ok (.bipush (-103), 2) := by decide +kernel
theorem dX6_valley_12 : decode cX6_valley 12 = .ok (.ireturn, 1) := by decide +kernel
theorem dX6_valley_13 : decode cX6_valley 13 = .ok (.aload_n 0, 1) := by decide +kernel
theorem dX6_valley_14 : decode cX6_valley 14 = .ok (.getfield 26, 3) := by decide +kernel
theorem dX6_valley_17 : decode cX6_valley 17 = .ok (.invokevirtual 59, 3) := by decide +kernel
theorem dX6_valley_20 : decode cX6_valley 20 = .ok (.aload_n 0, 1) := by decide +kernel
theorem dX6_valley_21 : decode cX6_valley 21 = .ok (.getfield 19, 3) := by decide +kernel
theorem dX6_valley_24 : decode cX6_valley 24 = .ok (.aload_n 0, 1) := by decide +kernel
theorem dX6_valley_25 : decode cX6_valley 25 = .ok (.getfield 10, 3) := by decide +kernel
theorem dX6_valley_28 : decode cX6_valley 28 = .ok (.aload_n 0, 1) := by decide +kernel
theorem dX6_valley_29 : decode cX6_valley 29 = .ok (.getfield 26, 3) := by decide +kernel
theorem dX6_valley_32 : decode cX6_valley 32 = .ok (.invokevirtual 61, 3) := by decide +kernel
theorem dX6_valley_35 : decode cX6_valley 35 = .ok (.aload_n 0, 1) := by decide +kernel
theorem dX6_valley_36 : decode cX6_valley 36 = .ok (.getfield 10, 3) := by decide +kernel
theorem dX6_valley_39 : decode cX6_valley 39 = .ok (.invokevirtual 48, 3) := by decide +kernel
theorem dX6_valley_42 : decode cX6_valley 42 = .ok (.pop, 1) := by decide +kernel
theorem dX6_valley_43 : decode cX6_valley 43 = .ok (.aload_n 0, 1) := by decide +kernel
theorem dX6_valley_44 : decode cX6_valley 44 = .ok (.iconst 0, 1) := by decide +kernel
theorem dX6_valley_45 : decode cX6_valley 45 = .ok (.putfield 65, 3) := by decide +kernel
theorem dX6_valley_48 : decode cX6_valley 48 = .ok (.aload_n 0, 1) := by decide +kernel
theorem dX6_valley_49 : decode cX6_valley 49 = .ok (.dup, 1) := by decide +kernel
theorem dX6_valley_50 : decode cX6_valley 50 = .ok (.getfield 69, 3) := by decide +kernel
theorem dX6_valley_53 : decode cX6_valley 53 = .ok (.iconst 1, 1) := by decide +kernel
theorem dX6_valley_54 : decode cX6_valley 54 = .ok (.iadd, 1) := by decide +kernel
theorem dX6_valley_55 : decode cX6_valley 55 = .ok (.putfield 69, 3) := by decide +kernel
theorem dX6_valley_58 : decode cX6_valley 58 = .ok (.aload_n 0, 1) := by decide +kernel
theorem dX6_valley_59 : decode cX6_valley 59 = .ok (.getfield 19, 3) := by decide +kernel
theorem dX6_valley_62 : decode cX6_valley 62 = .ok (.getfield 72, 3) := by decide +kernel
theorem dX6_valley_65 : decode cX6_valley 65 = .ok (.ireturn, 1) := by decide +kernel
theorem dX6_person_0 : decode cX6_person 0 = .ok (.aload_n 0, 1) := by decide +kernel
theorem dX6_person_1 : decode cX6_person 1 = .ok (.getfield 19, 3) := by decide +kernel
theorem dX6_person_4 : decode cX6_person 4 = .ok (.iload_n 1, 1) := by decide +kernel
theorem dX6_person_5 : decode cX6_person 5 = .ok (.invokevirtual 75, 3) := by decide +kernel
theorem dX6_person_8 : decode cX6_person 8 = .ok (.ifCond .ne 6, 3) := by decide +kernel
theorem dX6_person_11 : decode cX6_person 11 = .ok (.bipush (-101), 2) := by decide +kernel
theorem dX6_person_13 : decode cX6_person 13 = .ok (.ireturn, 1) := by decide +kernel
theorem dX6_person_14 : decode cX6_person 14 = .ok (.iload_n 2, 1) := by decide +kernel
theorem dX6_person_15 : decode cX6_person 15 = .ok (.invokestatic 79, 3) := by decide +kernel
theorem dX6_person_18 : decode cX6_person 18 = .ok (.ifCond .eq 23, 3) := by decide +kernel
theorem dX6_person_21 : decode cX6_person 21 = .ok (.aload_n 0, 1) := by decide +kernel
theorem dX6_person_22 : decode cX6_person 22 = .ok (.getfield 19, 3) := by decide +kernel
theorem dX6_person_25 : decode cX6_person 25 = .ok (.aload_n 0, 1) := by decide +kernel
theorem dX6_person_26 : decode cX6_person 26 = .ok (.getfield 26, 3) := by decide +kernel
theorem dX6_person_29 : decode cX6_person 29 = .ok (.iload_n 1, 1) := by decide +kernel
theorem dX6_person_30 : decode cX6_person 30 = .ok (.iconst 3, 1) := by decide +kernel
theorem dX6_person_31 : decode cX6_person 31 = .ok (.imul, 1) := by decide +kernel
theorem dX6_person_32 : decode cX6_person 32 = .ok (.iload_n 2, 1) := by decide +kernel
theorem dX6_person_33 : decode cX6_person 33 = .ok (.iadd, 1) := by decide +kernel
theorem dX6_person_34 : decode cX6_person 34 = .ok (.bipush 10, 2) := by decide +kernel
theorem dX6_person_36 : decode cX6_person 36 = .ok (.isub, 1) := by decide +kernel
theorem dX6_person_37 : decode cX6_person 37 = .ok (.invokevirtual 82, 3) := by decide +kernel
theorem dX6_person_40 : decode cX6_person 40 = .ok (.ireturn, 1) := by decide +kernel
theorem dX6_person_41 : decode cX6_person 41 = .ok (.iload_n 2, 1) := by decide +kernel
theorem dX6_person_42 : decode cX6_person 42 = .ok (.tableswitch 196 0 8 #[50, 60, 70, 80, 90, 100, 117, 142, 163], 50) := by decide +kernel
theorem dX6_person_92 : decode cX6_person 92 = .ok (.aload_n 0, 1) := by decide +kernel
theorem dX6_person_93 : decode cX6_person 93 = .ok (.getfield 19, 3) := by decide +kernel
theorem dX6_person_96 : decode cX6_person 96 = .ok (.getfield 86, 3) := by decide +kernel
theorem dX6_person_99 : decode cX6_person 99 = .ok (.iload_n 1, 1) := by decide +kernel
theorem dX6_person_100 : decode cX6_person 100 = .ok (.iaload, 1) := by decide +kernel
theorem dX6_person_101 : decode cX6_person 101 = .ok (.ireturn, 1) := by decide +kernel
theorem dX6_person_102 : decode cX6_person 102 = .ok (.aload_n 0, 1) := by decide +kernel
theorem dX6_person_103 : decode cX6_person 103 = .ok (.getfield 19, 3) := by decide +kernel
theorem dX6_person_106 : decode cX6_person 106 = .ok (.getfield 90, 3) := by decide +kernel
theorem dX6_person_109 : decode cX6_person 109 = .ok (.iload_n 1, 1) := by decide +kernel
theorem dX6_person_110 : decode cX6_person 110 = .ok (.iaload, 1) := by decide +kernel
theorem dX6_person_111 : decode cX6_person 111 = .ok (.ireturn, 1) := by decide +kernel
theorem dX6_person_112 : decode cX6_person 112 = .ok (.aload_n 0, 1) := by decide +kernel
theorem dX6_person_113 : decode cX6_person 113 = .ok (.getfield 26, 3) := by decide +kernel
theorem dX6_person_116 : decode cX6_person 116 = .ok (.getfield 93, 3) := by decide +kernel
theorem dX6_person_119 : decode cX6_person 119 = .ok (.iload_n 1, 1) := by decide +kernel
theorem dX6_person_120 : decode cX6_person 120 = .ok (.iaload, 1) := by decide +kernel
theorem dX6_person_121 : decode cX6_person 121 = .ok (.ireturn, 1) := by decide +kernel
theorem dX6_person_122 : decode cX6_person 122 = .ok (.aload_n 0, 1) := by decide +kernel
theorem dX6_person_123 : decode cX6_person 123 = .ok (.getfield 26, 3) := by decide +kernel
theorem dX6_person_126 : decode cX6_person 126 = .ok (.getfield 96, 3) := by decide +kernel
theorem dX6_person_129 : decode cX6_person 129 = .ok (.iload_n 1, 1) := by decide +kernel
theorem dX6_person_130 : decode cX6_person 130 = .ok (.iaload, 1) := by decide +kernel
theorem dX6_person_131 : decode cX6_person 131 = .ok (.ireturn, 1) := by decide +kernel
theorem dX6_person_132 : decode cX6_person 132 = .ok (.aload_n 0, 1) := by decide +kernel
theorem dX6_person_133 : decode cX6_person 133 = .ok (.getfield 26, 3) := by decide +kernel
theorem dX6_person_136 : decode cX6_person 136 = .ok (.getfield 99, 3) := by decide +kernel
theorem dX6_person_139 : decode cX6_person 139 = .ok (.iload_n 1, 1) := by decide +kernel
theorem dX6_person_140 : decode cX6_person 140 = .ok (.iaload, 1) := by decide +kernel
theorem dX6_person_141 : decode cX6_person 141 = .ok (.ireturn, 1) := by decide +kernel
theorem dX6_person_142 : decode cX6_person 142 = .ok (.aload_n 0, 1) := by decide +kernel
theorem dX6_person_143 : decode cX6_person 143 = .ok (.getfield 36, 3) := by decide +kernel
theorem dX6_person_146 : decode cX6_person 146 = .ok (.aload_n 0, 1) := by decide +kernel
theorem dX6_person_147 : decode cX6_person 147 = .ok (.getfield 19, 3) := by decide +kernel
theorem dX6_person_150 : decode cX6_person 150 = .ok (.aload_n 0, 1) := by decide +kernel
theorem dX6_person_151 : decode cX6_person 151 = .ok (.getfield 26, 3) := by decide +kernel
theorem dX6_person_154 : decode cX6_person 154 = .ok (.iload_n 1, 1) := by decide +kernel
theorem dX6_person_155 : decode cX6_person 155 = .ok (.invokevirtual 102, 3) := by decide +kernel
theorem dX6_person_158 : decode cX6_person 158 = .ok (.ireturn, 1) := by decide +kernel
theorem dX6_person_159 : decode cX6_person 159 = .ok (.aload_n 0, 1) := by decide +kernel
theorem dX6_person_160 : decode cX6_person 160 = .ok (.getfield 36, 3) := by decide +kernel
theorem dX6_person_163 : decode cX6_person 163 = .ok (.aload_n 0, 1) := by decide +kernel
theorem dX6_person_164 : decode cX6_person 164 = .ok (.getfield 19, 3) := by decide +kernel
theorem dX6_person_167 : decode cX6_person 167 = .ok (.aload_n 0, 1) := by decide +kernel
theorem dX6_person_168 : decode cX6_person 168 = .ok (.getfield 26, 3) := by decide +kernel
theorem dX6_person_171 : decode cX6_person 171 = .ok (.iload_n 1, 1) := by decide +kernel
theorem dX6_person_172 : decode cX6_person 172 = .ok (.invokevirtual 102, 3) := by decide +kernel
theorem dX6_person_175 : decode cX6_person 175 = .ok (.pop, 1) := by decide +kernel
theorem dX6_person_176 : decode cX6_person 176 = .ok (.aload_n 0, 1) := by decide +kernel
theorem dX6_person_177 : decode cX6_person 177 = .ok (.getfield 36, 3) := by decide +kernel
theorem dX6_person_180 : decode cX6_person 180 = .ok (.getfield 106, 3) := by decide +kernel
theorem dX6_person_183 : decode cX6_person 183 = .ok (.ireturn, 1) := by decide +kernel
theorem dX6_person_184 : decode cX6_person 184 = .ok (.aload_n 0, 1) := by decide +kernel
theorem dX6_person_185 : decode cX6_person 185 = .ok (.getfield 26, 3) := by decide +kernel
theorem dX6_person_188 : decode cX6_person 188 = .ok (.getfield 109, 3) := by decide +kernel
theorem dX6_person_191 : decode cX6_person 191 = .ok (.iload_n 1, 1) := by decide +kernel
theorem dX6_person_192 : decode cX6_person 192 = .ok (.aload_n 0, 1) := by decide +kernel
theorem dX6_person_193 : decode cX6_person 193 = .ok (.getfield 19, 3) := by decide +kernel
theorem dX6_person_196 : decode cX6_person 196 = .ok (.getfield 86, 3) := by decide +kernel
theorem dX6_person_199 : decode cX6_person 199 = .ok (.iload_n 1, 1) := by decide +kernel
theorem dX6_person_200 : decode cX6_person 200 = .ok (.iaload, 1) := by decide +kernel
theorem dX6_person_201 : decode cX6_person 201 = .ok (.invokevirtual 113, 3) := by decide +kernel
theorem dX6_person_204 : decode cX6_person 204 = .ok (.ireturn, 1) := by decide +kernel
theorem dX6_person_205 : decode cX6_person 205 = .ok (.aload_n 0, 1) := by decide +kernel
theorem dX6_person_206 : decode cX6_person 206 = .ok (.getfield 19, 3) := by decide +kernel
theorem dX6_person_209 : decode cX6_person 209 = .ok (.getfield 86, 3) := by decide +kernel
theorem dX6_person_212 : decode cX6_person 212 = .ok (.iload_n 1, 1) := by decide +kernel
theorem dX6_person_213 : decode cX6_person 213 = .ok (.iaload, 1) := by decide +kernel
theorem dX6_person_214 : decode cX6_person 214 = .ok (.aload_n 0, 1) := by decide +kernel
theorem dX6_person_215 : decode cX6_person 215 = .ok (.getfield 26, 3) := by decide +kernel
theorem dX6_person_218 : decode cX6_person 218 = .ok (.getfield 109, 3) := by decide +kernel
theorem dX6_person_221 : decode cX6_person 221 = .ok (.iload_n 1, 1) := by decide +kernel
theorem dX6_person_222 : decode cX6_person 222 = .ok (.aload_n 0, 1) := by decide +kernel
theorem dX6_person_223 : decode cX6_person 223 = .ok (.getfield 19, 3) := by decide +kernel
theorem dX6_person_226 : decode cX6_person 226 = .ok (.getfield 86, 3) := by decide +kernel
theorem dX6_person_229 : decode cX6_person 229 = .ok (.iload_n 1, 1) := by decide +kernel
theorem dX6_person_230 : decode cX6_person 230 = .ok (.iaload, 1) := by decide +kernel
theorem dX6_person_231 : decode cX6_person 231 = .ok (.invokevirtual 113, 3) := by decide +kernel
theorem dX6_person_234 : decode cX6_person 234 = .ok (.invokestatic 118, 3) := by decide +kernel
theorem dX6_person_237 : decode cX6_person 237 = .ok (.ireturn, 1) := by decide +kernel
theorem dX6_person_238 : decode cX6_person 238 = .ok (.bipush (-102), 2) := by decide +kernel
theorem dX6_person_240 : decode cX6_person 240 = .ok (.ireturn, 1) := by decide +kernel
theorem dX6_as_0 : decode cX6_as 0 = .ok (.aload_n 0, 1) := by decide +kernel
theorem dX6_as_1 : decode cX6_as 1 = .ok (.getfield 19, 3) := by decide +kernel
theorem dX6_as_4 : decode cX6_as 4 = .ok (.iload_n 1, 1) := by decide +kernel
theorem dX6_as_5 : decode cX6_as 5 = .ok (.invokevirtual 75, 3) := by decide +kernel
theorem dX6_as_8 : decode cX6_as 8 = .ok (.ifCond .ne 6, 3) := by decide +kernel
theorem dX6_as_11 : decode cX6_as 11 = .ok (.bipush (-101), 2) := by decide +kernel
theorem dX6_as_13 : decode cX6_as 13 = .ok (.ireturn, 1) := by decide +kernel
theorem dX6_as_14 : decode cX6_as 14 = .ok (.iload_n 2, 1) := by decide +kernel
theorem dX6_as_15 : decode cX6_as 15 = .ok (.ifCond .lt 8, 3) := by decide +kernel
theorem dX6_as_18 : decode cX6_as 18 = .ok (.iload_n 2, 1) := by decide +kernel
theorem dX6_as_19 : decode cX6_as 19 = .ok (.iconst 5, 1) := by decide +kernel
theorem dX6_as_20 : decode cX6_as 20 = .ok (.if_icmp .lt 6, 3) := by decide +kernel
theorem dX6_as_23 : decode cX6_as 23 = .ok (.bipush (-102), 2) := by decide +kernel
theorem dX6_as_25 : decode cX6_as 25 = .ok (.ireturn, 1) := by decide +kernel
theorem dX6_as_26 : decode cX6_as 26 = .ok (.aload_n 0, 1) := by decide +kernel
theorem dX6_as_27 : decode cX6_as 27 = .ok (.getfield 19, 3) := by decide +kernel
theorem dX6_as_30 : decode cX6_as 30 = .ok (.getfield 86, 3) := by decide +kernel
theorem dX6_as_33 : decode cX6_as 33 = .ok (.iload_n 1, 1) := by decide +kernel
theorem dX6_as_34 : decode cX6_as 34 = .ok (.iaload, 1) := by decide +kernel
theorem dX6_as_35 : decode cX6_as 35 = .ok (.iload_n 2, 1) := by decide +kernel
theorem dX6_as_36 : decode cX6_as 36 = .ok (.invokestatic 123, 3) := by decide +kernel
theorem dX6_as_39 : decode cX6_as 39 = .ok (.ifCond .eq 7, 3) := by decide +kernel
theorem dX6_as_42 : decode cX6_as 42 = .ok (.iload_n 1, 1) := by decide +kernel
theorem dX6_as_43 : decode cX6_as 43 = .ok (.goto 4, 3) := by decide +kernel
theorem dX6_as_46 : decode cX6_as 46 = .ok (.iconst (-1), 1) := by decide +kernel
theorem dX6_as_47 : decode cX6_as 47 = .ok (.ireturn, 1) := by decide +kernel
theorem dX6_pail_0 : decode cX6_pail 0 = .ok (.aload_n 0, 1) := by decide +kernel
theorem dX6_pail_1 : decode cX6_pail 1 = .ok (.getfield 19, 3) := by decide +kernel
theorem dX6_pail_4 : decode cX6_pail 4 = .ok (.iload_n 1, 1) := by decide +kernel
theorem dX6_pail_5 : decode cX6_pail 5 = .ok (.invokevirtual 127, 3) := by decide +kernel
theorem dX6_pail_8 : decode cX6_pail 8 = .ok (.ifCond .ne 6, 3) := by decide +kernel
theorem dX6_pail_11 : decode cX6_pail 11 = .ok (.bipush (-101), 2) := by decide +kernel
theorem dX6_pail_13 : decode cX6_pail 13 = .ok (.ireturn, 1) := by decide +kernel
theorem dX6_pail_14 : decode cX6_pail 14 = .ok (.iload_n 2, 1) := by decide +kernel
theorem dX6_pail_15 : decode cX6_pail 15 = .ok (.tableswitch 118 0 6 #[41, 51, 60, 77, 98, 104, 111], 41) := by decide +kernel
theorem dX6_pail_56 : decode cX6_pail 56 = .ok (.aload_n 0, 1) := by decide +kernel
theorem dX6_pail_57 : decode cX6_pail 57 = .ok (.getfield 19, 3) := by decide +kernel
theorem dX6_pail_60 : decode cX6_pail 60 = .ok (.getfield 130, 3) := by decide +kernel
theorem dX6_pail_63 : decode cX6_pail 63 = .ok (.iload_n 1, 1) := by decide +kernel
theorem dX6_pail_64 : decode cX6_pail 64 = .ok (.iaload, 1) := by decide +kernel
theorem dX6_pail_65 : decode cX6_pail 65 = .ok (.ireturn, 1) := by decide +kernel
theorem dX6_pail_66 : decode cX6_pail 66 = .ok (.aload_n 0, 1) := by decide +kernel
theorem dX6_pail_67 : decode cX6_pail 67 = .ok (.getfield 26, 3) := by decide +kernel
theorem dX6_pail_70 : decode cX6_pail 70 = .ok (.iload_n 1, 1) := by decide +kernel
theorem dX6_pail_71 : decode cX6_pail 71 = .ok (.invokevirtual 133, 3) := by decide +kernel
theorem dX6_pail_74 : decode cX6_pail 74 = .ok (.ireturn, 1) := by decide +kernel
theorem dX6_pail_75 : decode cX6_pail 75 = .ok (.aload_n 0, 1) := by decide +kernel
theorem dX6_pail_76 : decode cX6_pail 76 = .ok (.getfield 26, 3) := by decide +kernel
theorem dX6_pail_79 : decode cX6_pail 79 = .ok (.iload_n 1, 1) := by decide +kernel
theorem dX6_pail_80 : decode cX6_pail 80 = .ok (.invokevirtual 137, 3) := by decide +kernel
theorem dX6_pail_83 : decode cX6_pail 83 = .ok (.ifCond .eq 7, 3) := by decide +kernel
theorem dX6_pail_86 : decode cX6_pail 86 = .ok (.iconst 1, 1) := by decide +kernel
theorem dX6_pail_87 : decode cX6_pail 87 = .ok (.goto 4, 3) := by decide +kernel
theorem dX6_pail_90 : decode cX6_pail 90 = .ok (.iconst 0, 1) := by decide +kernel
theorem dX6_pail_91 : decode cX6_pail 91 = .ok (.ireturn, 1) := by decide +kernel
theorem dX6_pail_92 : decode cX6_pail 92 = .ok (.aload_n 0, 1) := by decide +kernel
theorem dX6_pail_93 : decode cX6_pail 93 = .ok (.getfield 19, 3) := by decide +kernel
theorem dX6_pail_96 : decode cX6_pail 96 = .ok (.aload_n 0, 1) := by decide +kernel
theorem dX6_pail_97 : decode cX6_pail 97 = .ok (.getfield 26, 3) := by decide +kernel
theorem dX6_pail_100 : decode cX6_pail 100 = .ok (.iload_n 1, 1) := by decide +kernel
theorem dX6_pail_101 : decode cX6_pail 101 = .ok (.invokevirtual 140, 3) := by decide +kernel
theorem dX6_pail_104 : decode cX6_pail 104 = .ok (.ifCond .eq 7, 3) := by decide +kernel
theorem dX6_pail_107 : decode cX6_pail 107 = .ok (.iconst 1, 1) := by decide +kernel
theorem dX6_pail_108 : decode cX6_pail 108 = .ok (.goto 4, 3) := by decide +kernel
theorem dX6_pail_111 : decode cX6_pail 111 = .ok (.iconst 0, 1) := by decide +kernel
theorem dX6_pail_112 : decode cX6_pail 112 = .ok (.ireturn, 1) := by decide +kernel
theorem dX6_pail_113 : decode cX6_pail 113 = .ok (.aload_n 0, 1) := by decide +kernel
theorem dX6_pail_114 : decode cX6_pail 114 = .ok (.iload_n 1, 1) := by decide +kernel
theorem dX6_pail_115 : decode cX6_pail 115 = .ok (.invokevirtual 144, 3) := by decide +kernel
theorem dX6_pail_118 : decode cX6_pail 118 = .ok (.ireturn, 1) := by decide +kernel
theorem dX6_pail_119 : decode cX6_pail 119 = .ok (.aload_n 0, 1) := by decide +kernel
theorem dX6_pail_120 : decode cX6_pail 120 = .ok (.iload_n 1, 1) := by decide +kernel
theorem dX6_pail_121 : decode cX6_pail 121 = .ok (.iconst 1, 1) := by decide +kernel
theorem dX6_pail_122 : decode cX6_pail 122 = .ok (.invokevirtual 147, 3) := by decide +kernel
theorem dX6_pail_125 : decode cX6_pail 125 = .ok (.ireturn, 1) := by decide +kernel
theorem dX6_pail_126 : decode cX6_pail 126 = .ok (.aload_n 0, 1) := by decide +kernel
theorem dX6_pail_127 : decode cX6_pail 127 = .ok (.iload_n 1, 1) := by decide +kernel
theorem dX6_pail_128 : decode cX6_pail 128 = .ok (.iconst 0, 1) := by decide +kernel
theorem dX6_pail_129 : decode cX6_pail 129 = .ok (.invokevirtual 147, 3) := by decide +kernel
theorem dX6_pail_132 : decode cX6_pail 132 = .ok (.ireturn, 1) := by decide +kernel
theorem dX6_pail_133 : decode cX6_pail 133 = .ok (.bipush (-102), 2) := by decide +kernel
theorem dX6_pail_135 : decode cX6_pail 135 = .ok (.ireturn, 1) := by decide +kernel
theorem dX6_slight_0 : decode cX6_slight 0 = .ok (.aload_n 0, 1) := by decide +kernel
theorem dX6_slight_1 : decode cX6_slight 1 = .ok (.getfield 19, 3) := by decide +kernel
theorem dX6_slight_4 : decode cX6_slight 4 = .ok (.iload_n 1, 1) := by decide +kernel
theorem dX6_slight_5 : decode cX6_slight 5 = .ok (.invokevirtual 75, 3) := by decide +kernel
theorem dX6_slight_8 : decode cX6_slight 8 = .ok (.ifCond .ne 6, 3) := by decide +kernel
theorem dX6_slight_11 : decode cX6_slight 11 = .ok (.bipush (-101), 2) := by decide +kernel
theorem dX6_slight_13 : decode cX6_slight 13 = .ok (.ireturn, 1) := by decide +kernel
theorem dX6_slight_14 : decode cX6_slight 14 = .ok (.iload_n 2, 1) := by decide +kernel
theorem dX6_slight_15 : decode cX6_slight 15 = .ok (.invokestatic 151, 3) := by decide +kernel
theorem dX6_slight_18 : decode cX6_slight 18 = .ok (.ifCond .ne 6, 3) := by decide +kernel
theorem dX6_slight_21 : decode cX6_slight 21 = .ok (.bipush (-102), 2) := by decide +kernel
theorem dX6_slight_23 : decode cX6_slight 23 = .ok (.ireturn, 1) := by decide +kernel
theorem dX6_slight_24 : decode cX6_slight 24 = .ok (.aload_n 0, 1) := by decide +kernel
theorem dX6_slight_25 : decode cX6_slight 25 = .ok (.getfield 19, 3) := by decide +kernel
theorem dX6_slight_28 : decode cX6_slight 28 = .ok (.aload_n 0, 1) := by decide +kernel
theorem dX6_slight_29 : decode cX6_slight 29 = .ok (.getfield 26, 3) := by decide +kernel
theorem dX6_slight_32 : decode cX6_slight 32 = .ok (.iload_n 1, 1) := by decide +kernel
theorem dX6_slight_33 : decode cX6_slight 33 = .ok (.iconst 3, 1) := by decide +kernel
theorem dX6_slight_34 : decode cX6_slight 34 = .ok (.imul, 1) := by decide +kernel
theorem dX6_slight_35 : decode cX6_slight 35 = .ok (.iload_n 2, 1) := by decide +kernel
theorem dX6_slight_36 : decode cX6_slight 36 = .ok (.iadd, 1) := by decide +kernel
theorem dX6_slight_37 : decode cX6_slight 37 = .ok (.invokevirtual 154, 3) := by decide +kernel
theorem dX6_slight_40 : decode cX6_slight 40 = .ok (.aload_n 0, 1) := by decide +kernel
theorem dX6_slight_41 : decode cX6_slight 41 = .ok (.getfield 26, 3) := by decide +kernel
theorem dX6_slight_44 : decode cX6_slight 44 = .ok (.getfield 99, 3) := by decide +kernel
theorem dX6_slight_47 : decode cX6_slight 47 = .ok (.iload_n 1, 1) := by decide +kernel
theorem dX6_slight_48 : decode cX6_slight 48 = .ok (.dup2, 1) := by decide +kernel
theorem dX6_slight_49 : decode cX6_slight 49 = .ok (.iaload, 1) := by decide +kernel
theorem dX6_slight_50 : decode cX6_slight 50 = .ok (.iconst 1, 1) := by decide +kernel
theorem dX6_slight_51 : decode cX6_slight 51 = .ok (.iadd, 1) := by decide +kernel
theorem dX6_slight_52 : decode cX6_slight 52 = .ok (.iastore, 1) := by decide +kernel
theorem dX6_slight_53 : decode cX6_slight 53 = .ok (.aload_n 0, 1) := by decide +kernel
theorem dX6_slight_54 : decode cX6_slight 54 = .ok (.getfield 26, 3) := by decide +kernel
theorem dX6_slight_57 : decode cX6_slight 57 = .ok (.getfield 96, 3) := by decide +kernel
theorem dX6_slight_60 : decode cX6_slight 60 = .ok (.iload_n 1, 1) := by decide +kernel
theorem dX6_slight_61 : decode cX6_slight 61 = .ok (.iaload, 1) := by decide +kernel
theorem dX6_slight_62 : decode cX6_slight 62 = .ok (.ireturn, 1) := by decide +kernel
theorem dX6_soothe_0 : decode cX6_soothe 0 = .ok (.aload_n 0, 1) := by decide +kernel
theorem dX6_soothe_1 : decode cX6_soothe 1 = .ok (.getfield 19, 3) := by decide +kernel
theorem dX6_soothe_4 : decode cX6_soothe 4 = .ok (.iload_n 1, 1) := by decide +kernel
theorem dX6_soothe_5 : decode cX6_soothe 5 = .ok (.invokevirtual 75, 3) := by decide +kernel
theorem dX6_soothe_8 : decode cX6_soothe 8 = .ok (.ifCond .ne 6, 3) := by decide +kernel
theorem dX6_soothe_11 : decode cX6_soothe 11 = .ok (.bipush (-101), 2) := by decide +kernel
theorem dX6_soothe_13 : decode cX6_soothe 13 = .ok (.ireturn, 1) := by decide +kernel
theorem dX6_soothe_14 : decode cX6_soothe 14 = .ok (.aload_n 0, 1) := by decide +kernel
theorem dX6_soothe_15 : decode cX6_soothe 15 = .ok (.getfield 26, 3) := by decide +kernel
theorem dX6_soothe_18 : decode cX6_soothe 18 = .ok (.getfield 96, 3) := by decide +kernel
theorem dX6_soothe_21 : decode cX6_soothe 21 = .ok (.iload_n 1, 1) := by decide +kernel
theorem dX6_soothe_22 : decode cX6_soothe 22 = .ok (.iaload, 1) := by decide +kernel
theorem dX6_soothe_23 : decode cX6_soothe 23 = .ok (.istore_n 2, 1) := by decide +kernel
theorem dX6_soothe_24 : decode cX6_soothe 24 = .ok (.aload_n 0, 1) := by decide +kernel
theorem dX6_soothe_25 : decode cX6_soothe 25 = .ok (.getfield 26, 3) := by decide +kernel
theorem dX6_soothe_28 : decode cX6_soothe 28 = .ok (.getfield 96, 3) := by decide +kernel
theorem dX6_soothe_31 : decode cX6_soothe 31 = .ok (.iload_n 1, 1) := by decide +kernel
theorem dX6_soothe_32 : decode cX6_soothe 32 = .ok (.iconst 0, 1) := by decide +kernel
theorem dX6_soothe_33 : decode cX6_soothe 33 = .ok (.iastore, 1) := by decide +kernel
theorem dX6_soothe_34 : decode cX6_soothe 34 = .ok (.iload_n 2, 1) := by decide +kernel
theorem dX6_soothe_35 : decode cX6_soothe 35 = .ok (.ireturn, 1) := by decide +kernel
theorem dX6_sit_0 : decode cX6_sit 0 = .ok (.aload_n 0, 1) := by decide +kernel
theorem dX6_sit_1 : decode cX6_sit 1 = .ok (.getfield 19, 3) := by decide +kernel
theorem dX6_sit_4 : decode cX6_sit 4 = .ok (.iload_n 1, 1) := by decide +kernel
theorem dX6_sit_5 : decode cX6_sit 5 = .ok (.invokevirtual 75, 3) := by decide +kernel
theorem dX6_sit_8 : decode cX6_sit 8 = .ok (.ifCond .eq 10, 3) := by decide +kernel
theorem dX6_sit_11 : decode cX6_sit 11 = .ok (.iload_n 2, 1) := by decide +kernel
theorem dX6_sit_12 : decode cX6_sit 12 = .ok (.invokestatic 158, 3) := by decide +kernel
theorem dX6_sit_15 : decode cX6_sit 15 = .ok (.ifCond .ne 6, 3) := by decide +kernel
theorem dX6_sit_18 : decode cX6_sit 18 = .ok (.bipush (-101), 2) := by decide +kernel
theorem dX6_sit_20 : decode cX6_sit 20 = .ok (.ireturn, 1) := by decide +kernel
theorem dX6_sit_21 : decode cX6_sit 21 = .ok (.aload_n 0, 1) := by decide +kernel
theorem dX6_sit_22 : decode cX6_sit 22 = .ok (.getfield 26, 3) := by decide +kernel
theorem dX6_sit_25 : decode cX6_sit 25 = .ok (.getfield 93, 3) := by decide +kernel
theorem dX6_sit_28 : decode cX6_sit 28 = .ok (.iload_n 1, 1) := by decide +kernel
theorem dX6_sit_29 : decode cX6_sit 29 = .ok (.iaload, 1) := by decide +kernel
theorem dX6_sit_30 : decode cX6_sit 30 = .ok (.istore_n 3, 1) := by decide +kernel
theorem dX6_sit_31 : decode cX6_sit 31 = .ok (.aload_n 0, 1) := by decide +kernel
theorem dX6_sit_32 : decode cX6_sit 32 = .ok (.getfield 26, 3) := by decide +kernel
theorem dX6_sit_35 : decode cX6_sit 35 = .ok (.getfield 93, 3) := by decide +kernel
theorem dX6_sit_38 : decode cX6_sit 38 = .ok (.iload_n 1, 1) := by decide +kernel
theorem dX6_sit_39 : decode cX6_sit 39 = .ok (.iload_n 2, 1) := by decide +kernel
theorem dX6_sit_40 : decode cX6_sit 40 = .ok (.iastore, 1) := by decide +kernel
theorem dX6_sit_41 : decode cX6_sit 41 = .ok (.iload_n 3, 1) := by decide +kernel
theorem dX6_sit_42 : decode cX6_sit 42 = .ok (.ireturn, 1) := by decide +kernel
theorem dX6_night_0 : decode cX6_night 0 = .ok (.aload_n 0, 1) := by decide +kernel
theorem dX6_night_1 : decode cX6_night 1 = .ok (.getfield 19, 3) := by decide +kernel
theorem dX6_night_4 : decode cX6_night 4 = .ok (.invokevirtual 161, 3) := by decide +kernel
theorem dX6_night_7 : decode cX6_night 7 = .ok (.ifCond .ne 6, 3) := by decide +kernel
theorem dX6_night_10 : decode cX6_night 10 = .ok (.bipush (-103), 2) := by decide +kernel
theorem dX6_night_12 : decode cX6_night 12 = .ok (.ireturn, 1) := by decide +kernel
theorem dX6_night_13 : decode cX6_night 13 = .ok (.aload_n 0, 1) := by decide +kernel
theorem dX6_night_14 : decode cX6_night 14 = .ok (.getfield 26, 3) := by decide +kernel
theorem dX6_night_17 : decode cX6_night 17 = .ok (.getfield 164, 3) := by decide +kernel
theorem dX6_night_20 : decode cX6_night 20 = .ok (.bipush 99, 2) := by decide +kernel
theorem dX6_night_22 : decode cX6_night 22 = .ok (.if_icmp .lt 6, 3) := by decide +kernel
theorem dX6_night_25 : decode cX6_night 25 = .ok (.bipush (-104), 2) := by decide +kernel
theorem dX6_night_27 : decode cX6_night 27 = .ok (.ireturn, 1) := by decide +kernel
theorem dX6_night_28 : decode cX6_night 28 = .ok (.aload_n 0, 1) := by decide +kernel
theorem dX6_night_29 : decode cX6_night 29 = .ok (.getfield 19, 3) := by decide +kernel
theorem dX6_night_32 : decode cX6_night 32 = .ok (.aload_n 0, 1) := by decide +kernel
theorem dX6_night_33 : decode cX6_night 33 = .ok (.getfield 26, 3) := by decide +kernel
theorem dX6_night_36 : decode cX6_night 36 = .ok (.invokevirtual 167, 3) := by decide +kernel
theorem dX6_night_39 : decode cX6_night 39 = .ok (.aload_n 0, 1) := by decide +kernel
theorem dX6_night_40 : decode cX6_night 40 = .ok (.getfield 26, 3) := by decide +kernel
theorem dX6_night_43 : decode cX6_night 43 = .ok (.dup, 1) := by decide +kernel
theorem dX6_night_44 : decode cX6_night 44 = .ok (.getfield 164, 3) := by decide +kernel
theorem dX6_night_47 : decode cX6_night 47 = .ok (.iconst 1, 1) := by decide +kernel
theorem dX6_night_48 : decode cX6_night 48 = .ok (.iadd, 1) := by decide +kernel
theorem dX6_night_49 : decode cX6_night 49 = .ok (.putfield 164, 3) := by decide +kernel
theorem dX6_night_52 : decode cX6_night 52 = .ok (.aload_n 0, 1) := by decide +kernel
theorem dX6_night_53 : decode cX6_night 53 = .ok (.getfield 26, 3) := by decide +kernel
theorem dX6_night_56 : decode cX6_night 56 = .ok (.getfield 164, 3) := by decide +kernel
theorem dX6_night_59 : decode cX6_night 59 = .ok (.ireturn, 1) := by decide +kernel
theorem dX6_curdle_0 : decode cX6_curdle 0 = .ok (.aload_n 0, 1) := by decide +kernel
theorem dX6_curdle_1 : decode cX6_curdle 1 = .ok (.getfield 19, 3) := by decide +kernel
theorem dX6_curdle_4 : decode cX6_curdle 4 = .ok (.invokevirtual 161, 3) := by decide +kernel
theorem dX6_curdle_7 : decode cX6_curdle 7 = .ok (.ifCond .ne 6, 3) := by decide +kernel
theorem dX6_curdle_10 : decode cX6_curdle 10 = .ok (.bipush (-103), 2) := by decide +kernel
theorem dX6_curdle_12 : decode cX6_curdle 12 = .ok (.ireturn, 1) := by decide +kernel
theorem dX6_curdle_13 : decode cX6_curdle 13 = .ok (.aload_n 0, 1) := by decide +kernel
theorem dX6_curdle_14 : decode cX6_curdle 14 = .ok (.getfield 19, 3) := by decide +kernel
theorem dX6_curdle_17 : decode cX6_curdle 17 = .ok (.aload_n 0, 1) := by decide +kernel
theorem dX6_curdle_18 : decode cX6_curdle 18 = .ok (.getfield 26, 3) := by decide +kernel
theorem dX6_curdle_21 : decode cX6_curdle 21 = .ok (.invokevirtual 171, 3) := by decide +kernel
theorem dX6_curdle_24 : decode cX6_curdle 24 = .ok (.aload_n 0, 1) := by decide +kernel
theorem dX6_curdle_25 : decode cX6_curdle 25 = .ok (.getfield 26, 3) := by decide +kernel
theorem dX6_curdle_28 : decode cX6_curdle 28 = .ok (.getfield 175, 3) := by decide +kernel
theorem dX6_curdle_31 : decode cX6_curdle 31 = .ok (.iconst (-1), 1) := by decide +kernel
theorem dX6_curdle_32 : decode cX6_curdle 32 = .ok (.ixor, 1) := by decide +kernel
theorem dX6_curdle_33 : decode cX6_curdle 33 = .ok (.iand, 1) := by decide +kernel
theorem dX6_curdle_34 : decode cX6_curdle 34 = .ok (.istore_n 1, 1) := by decide +kernel
theorem dX6_curdle_35 : decode cX6_curdle 35 = .ok (.iload_n 1, 1) := by decide +kernel
theorem dX6_curdle_36 : decode cX6_curdle 36 = .ok (.invokestatic 178, 3) := by decide +kernel
theorem dX6_curdle_39 : decode cX6_curdle 39 = .ok (.istore_n 2, 1) := by decide +kernel
theorem dX6_curdle_40 : decode cX6_curdle 40 = .ok (.aload_n 0, 1) := by decide +kernel
theorem dX6_curdle_41 : decode cX6_curdle 41 = .ok (.getfield 26, 3) := by decide +kernel
theorem dX6_curdle_44 : decode cX6_curdle 44 = .ok (.dup, 1) := by decide +kernel
theorem dX6_curdle_45 : decode cX6_curdle 45 = .ok (.getfield 175, 3) := by decide +kernel
theorem dX6_curdle_48 : decode cX6_curdle 48 = .ok (.iload_n 1, 1) := by decide +kernel
theorem dX6_curdle_49 : decode cX6_curdle 49 = .ok (.ior, 1) := by decide +kernel
theorem dX6_curdle_50 : decode cX6_curdle 50 = .ok (.putfield 175, 3) := by decide +kernel
theorem dX6_curdle_53 : decode cX6_curdle 53 = .ok (.aload_n 0, 1) := by decide +kernel
theorem dX6_curdle_54 : decode cX6_curdle 54 = .ok (.getfield 26, 3) := by decide +kernel
theorem dX6_curdle_57 : decode cX6_curdle 57 = .ok (.dup, 1) := by decide +kernel
theorem dX6_curdle_58 : decode cX6_curdle 58 = .ok (.getfield 183, 3) := by decide +kernel
theorem dX6_curdle_61 : decode cX6_curdle 61 = .ok (.iload_n 2, 1) := by decide +kernel
theorem dX6_curdle_62 : decode cX6_curdle 62 = .ok (.iadd, 1) := by decide +kernel
theorem dX6_curdle_63 : decode cX6_curdle 63 = .ok (.putfield 183, 3) := by decide +kernel
theorem dX6_curdle_66 : decode cX6_curdle 66 = .ok (.aload_n 0, 1) := by decide +kernel
theorem dX6_curdle_67 : decode cX6_curdle 67 = .ok (.getfield 26, 3) := by decide +kernel
theorem dX6_curdle_70 : decode cX6_curdle 70 = .ok (.iconst 0, 1) := by decide +kernel
theorem dX6_curdle_71 : decode cX6_curdle 71 = .ok (.putfield 186, 3) := by decide +kernel
theorem dX6_curdle_74 : decode cX6_curdle 74 = .ok (.iload_n 2, 1) := by decide +kernel
theorem dX6_curdle_75 : decode cX6_curdle 75 = .ok (.ireturn, 1) := by decide +kernel
theorem dX6_fresh_0 : decode cX6_fresh 0 = .ok (.aload_n 0, 1) := by decide +kernel
theorem dX6_fresh_1 : decode cX6_fresh 1 = .ok (.getfield 19, 3) := by decide +kernel
theorem dX6_fresh_4 : decode cX6_fresh 4 = .ok (.iload_n 1, 1) := by decide +kernel
theorem dX6_fresh_5 : decode cX6_fresh 5 = .ok (.invokevirtual 127, 3) := by decide +kernel
theorem dX6_fresh_8 : decode cX6_fresh 8 = .ok (.ifCond .ne 6, 3) := by decide +kernel
theorem dX6_fresh_11 : decode cX6_fresh 11 = .ok (.bipush (-101), 2) := by decide +kernel
theorem dX6_fresh_13 : decode cX6_fresh 13 = .ok (.ireturn, 1) := by decide +kernel
theorem dX6_fresh_14 : decode cX6_fresh 14 = .ok (.aload_n 0, 1) := by decide +kernel
theorem dX6_fresh_15 : decode cX6_fresh 15 = .ok (.getfield 26, 3) := by decide +kernel
theorem dX6_fresh_18 : decode cX6_fresh 18 = .ok (.iload_n 1, 1) := by decide +kernel
theorem dX6_fresh_19 : decode cX6_fresh 19 = .ok (.invokevirtual 137, 3) := by decide +kernel
theorem dX6_fresh_22 : decode cX6_fresh 22 = .ok (.ifCond .eq 7, 3) := by decide +kernel
theorem dX6_fresh_25 : decode cX6_fresh 25 = .ok (.iconst 1, 1) := by decide +kernel
theorem dX6_fresh_26 : decode cX6_fresh 26 = .ok (.goto 4, 3) := by decide +kernel
theorem dX6_fresh_29 : decode cX6_fresh 29 = .ok (.iconst 0, 1) := by decide +kernel
theorem dX6_fresh_30 : decode cX6_fresh 30 = .ok (.istore_n 2, 1) := by decide +kernel
theorem dX6_fresh_31 : decode cX6_fresh 31 = .ok (.aload_n 0, 1) := by decide +kernel
theorem dX6_fresh_32 : decode cX6_fresh 32 = .ok (.getfield 26, 3) := by decide +kernel
theorem dX6_fresh_35 : decode cX6_fresh 35 = .ok (.dup, 1) := by decide +kernel
theorem dX6_fresh_36 : decode cX6_fresh 36 = .ok (.getfield 175, 3) := by decide +kernel
theorem dX6_fresh_39 : decode cX6_fresh 39 = .ok (.iconst 1, 1) := by decide +kernel
theorem dX6_fresh_40 : decode cX6_fresh 40 = .ok (.iload_n 1, 1) := by decide +kernel
theorem dX6_fresh_41 : decode cX6_fresh 41 = .ok (.ishl, 1) := by decide +kernel
theorem dX6_fresh_42 : decode cX6_fresh 42 = .ok (.iconst (-1), 1) := by decide +kernel
theorem dX6_fresh_43 : decode cX6_fresh 43 = .ok (.ixor, 1) := by decide +kernel
theorem dX6_fresh_44 : decode cX6_fresh 44 = .ok (.iand, 1) := by decide +kernel
theorem dX6_fresh_45 : decode cX6_fresh 45 = .ok (.putfield 175, 3) := by decide +kernel
theorem dX6_fresh_48 : decode cX6_fresh 48 = .ok (.iload_n 2, 1) := by decide +kernel
theorem dX6_fresh_49 : decode cX6_fresh 49 = .ok (.ireturn, 1) := by decide +kernel
theorem dX6_force_0 : decode cX6_force 0 = .ok (.aload_n 0, 1) := by decide +kernel
theorem dX6_force_1 : decode cX6_force 1 = .ok (.getfield 19, 3) := by decide +kernel
theorem dX6_force_4 : decode cX6_force 4 = .ok (.invokevirtual 161, 3) := by decide +kernel
theorem dX6_force_7 : decode cX6_force 7 = .ok (.ifCond .eq 10, 3) := by decide +kernel
theorem dX6_force_10 : decode cX6_force 10 = .ok (.iload_n 1, 1) := by decide +kernel
theorem dX6_force_11 : decode cX6_force 11 = .ok (.invokestatic 158, 3) := by decide +kernel
theorem dX6_force_14 : decode cX6_force 14 = .ok (.ifCond .ne 6, 3) := by decide +kernel
theorem dX6_force_17 : decode cX6_force 17 = .ok (.bipush (-101), 2) := by decide +kernel
theorem dX6_force_19 : decode cX6_force 19 = .ok (.ireturn, 1) := by decide +kernel
theorem dX6_force_20 : decode cX6_force 20 = .ok (.aload_n 0, 1) := by decide +kernel
theorem dX6_force_21 : decode cX6_force 21 = .ok (.getfield 26, 3) := by decide +kernel
theorem dX6_force_24 : decode cX6_force 24 = .ok (.iload_n 1, 1) := by decide +kernel
theorem dX6_force_25 : decode cX6_force 25 = .ok (.invokevirtual 133, 3) := by decide +kernel
theorem dX6_force_28 : decode cX6_force 28 = .ok (.ireturn, 1) := by decide +kernel
theorem dX6_keep_0 : decode cX6_keep 0 = .ok (.aload_n 0, 1) := by decide +kernel
theorem dX6_keep_1 : decode cX6_keep 1 = .ok (.iload_n 1, 1) := by decide +kernel
theorem dX6_keep_2 : decode cX6_keep 2 = .ok (.invokevirtual 189, 3) := by decide +kernel
theorem dX6_keep_5 : decode cX6_keep 5 = .ok (.ifCond .eq 14, 3) := by decide +kernel
theorem dX6_keep_8 : decode cX6_keep 8 = .ok (.aload_n 0, 1) := by decide +kernel
theorem dX6_keep_9 : decode cX6_keep 9 = .ok (.getfield 19, 3) := by decide +kernel
theorem dX6_keep_12 : decode cX6_keep 12 = .ok (.iload_n 2, 1) := by decide +kernel
theorem dX6_keep_13 : decode cX6_keep 13 = .ok (.invokevirtual 75, 3) := by decide +kernel
theorem dX6_keep_16 : decode cX6_keep 16 = .ok (.ifCond .ne 6, 3) := by decide +kernel
theorem dX6_keep_19 : decode cX6_keep 19 = .ok (.bipush (-101), 2) := by decide +kernel
theorem dX6_keep_21 : decode cX6_keep 21 = .ok (.ireturn, 1) := by decide +kernel
theorem dX6_keep_22 : decode cX6_keep 22 = .ok (.aload_n 0, 1) := by decide +kernel
theorem dX6_keep_23 : decode cX6_keep 23 = .ok (.getfield 26, 3) := by decide +kernel
theorem dX6_keep_26 : decode cX6_keep 26 = .ok (.getfield 192, 3) := by decide +kernel
theorem dX6_keep_29 : decode cX6_keep 29 = .ok (.iload_n 1, 1) := by decide +kernel
theorem dX6_keep_30 : decode cX6_keep 30 = .ok (.iaload, 1) := by decide +kernel
theorem dX6_keep_31 : decode cX6_keep 31 = .ok (.ifCond .gt 15, 3) := by decide +kernel
theorem dX6_keep_34 : decode cX6_keep 34 = .ok (.aload_n 0, 1) := by decide +kernel
theorem dX6_keep_35 : decode cX6_keep 35 = .ok (.getfield 26, 3) := by decide +kernel
theorem dX6_keep_38 : decode cX6_keep 38 = .ok (.getfield 96, 3) := by decide +kernel
theorem dX6_keep_41 : decode cX6_keep 41 = .ok (.iload_n 2, 1) := by decide +kernel
theorem dX6_keep_42 : decode cX6_keep 42 = .ok (.iaload, 1) := by decide +kernel
theorem dX6_keep_43 : decode cX6_keep 43 = .ok (.ifCond .ne 6, 3) := by decide +kernel
theorem dX6_keep_46 : decode cX6_keep 46 = .ok (.bipush (-103), 2) := by decide +kernel
theorem dX6_keep_48 : decode cX6_keep 48 = .ok (.ireturn, 1) := by decide +kernel
theorem dX6_keep_49 : decode cX6_keep 49 = .ok (.aload_n 0, 1) := by decide +kernel
theorem dX6_keep_50 : decode cX6_keep 50 = .ok (.getfield 26, 3) := by decide +kernel
theorem dX6_keep_53 : decode cX6_keep 53 = .ok (.getfield 192, 3) := by decide +kernel
theorem dX6_keep_56 : decode cX6_keep 56 = .ok (.iload_n 1, 1) := by decide +kernel
theorem dX6_keep_57 : decode cX6_keep 57 = .ok (.aload_n 0, 1) := by decide +kernel
theorem dX6_keep_58 : decode cX6_keep 58 = .ok (.getfield 26, 3) := by decide +kernel
theorem dX6_keep_61 : decode cX6_keep 61 = .ok (.getfield 96, 3) := by decide +kernel
theorem dX6_keep_64 : decode cX6_keep 64 = .ok (.iload_n 2, 1) := by decide +kernel
theorem dX6_keep_65 : decode cX6_keep 65 = .ok (.iaload, 1) := by decide +kernel
theorem dX6_keep_66 : decode cX6_keep 66 = .ok (.iastore, 1) := by decide +kernel
theorem dX6_keep_67 : decode cX6_keep 67 = .ok (.aload_n 0, 1) := by decide +kernel
theorem dX6_keep_68 : decode cX6_keep 68 = .ok (.getfield 26, 3) := by decide +kernel
theorem dX6_keep_71 : decode cX6_keep 71 = .ok (.getfield 96, 3) := by decide +kernel
theorem dX6_keep_74 : decode cX6_keep 74 = .ok (.iload_n 2, 1) := by decide +kernel
theorem dX6_keep_75 : decode cX6_keep 75 = .ok (.iconst 0, 1) := by decide +kernel
theorem dX6_keep_76 : decode cX6_keep 76 = .ok (.iastore, 1) := by decide +kernel
theorem dX6_keep_77 : decode cX6_keep 77 = .ok (.aload_n 0, 1) := by decide +kernel
theorem dX6_keep_78 : decode cX6_keep 78 = .ok (.getfield 26, 3) := by decide +kernel
theorem dX6_keep_81 : decode cX6_keep 81 = .ok (.getfield 192, 3) := by decide +kernel
theorem dX6_keep_84 : decode cX6_keep 84 = .ok (.iload_n 1, 1) := by decide +kernel
theorem dX6_keep_85 : decode cX6_keep 85 = .ok (.iaload, 1) := by decide +kernel
theorem dX6_keep_86 : decode cX6_keep 86 = .ok (.ireturn, 1) := by decide +kernel
theorem dX6_pour_0 : decode cX6_pour 0 = .ok (.aload_n 0, 1) := by decide +kernel
theorem dX6_pour_1 : decode cX6_pour 1 = .ok (.iload_n 1, 1) := by decide +kernel
theorem dX6_pour_2 : decode cX6_pour 2 = .ok (.invokevirtual 189, 3) := by decide +kernel
theorem dX6_pour_5 : decode cX6_pour 5 = .ok (.ifCond .eq 10, 3) := by decide +kernel
theorem dX6_pour_8 : decode cX6_pour 8 = .ok (.iload_n 2, 1) := by decide +kernel
theorem dX6_pour_9 : decode cX6_pour 9 = .ok (.invokestatic 158, 3) := by decide +kernel
theorem dX6_pour_12 : decode cX6_pour 12 = .ok (.ifCond .ne 6, 3) := by decide +kernel
theorem dX6_pour_15 : decode cX6_pour 15 = .ok (.bipush (-101), 2) := by decide +kernel
theorem dX6_pour_17 : decode cX6_pour 17 = .ok (.ireturn, 1) := by decide +kernel
theorem dX6_pour_18 : decode cX6_pour 18 = .ok (.aload_n 0, 1) := by decide +kernel
theorem dX6_pour_19 : decode cX6_pour 19 = .ok (.getfield 26, 3) := by decide +kernel
theorem dX6_pour_22 : decode cX6_pour 22 = .ok (.getfield 192, 3) := by decide +kernel
theorem dX6_pour_25 : decode cX6_pour 25 = .ok (.iload_n 1, 1) := by decide +kernel
theorem dX6_pour_26 : decode cX6_pour 26 = .ok (.iaload, 1) := by decide +kernel
theorem dX6_pour_27 : decode cX6_pour 27 = .ok (.ifCond .ne 6, 3) := by decide +kernel
theorem dX6_pour_30 : decode cX6_pour 30 = .ok (.bipush (-103), 2) := by decide +kernel
theorem dX6_pour_32 : decode cX6_pour 32 = .ok (.ireturn, 1) := by decide +kernel
theorem dX6_pour_33 : decode cX6_pour 33 = .ok (.aload_n 0, 1) := by decide +kernel
theorem dX6_pour_34 : decode cX6_pour 34 = .ok (.getfield 26, 3) := by decide +kernel
theorem dX6_pour_37 : decode cX6_pour 37 = .ok (.getfield 186, 3) := by decide +kernel
theorem dX6_pour_40 : decode cX6_pour 40 = .ok (.iconst 4, 1) := by decide +kernel
theorem dX6_pour_41 : decode cX6_pour 41 = .ok (.if_icmp .lt 6, 3) := by decide +kernel
theorem dX6_pour_44 : decode cX6_pour 44 = .ok (.bipush (-104), 2) := by decide +kernel
theorem dX6_pour_46 : decode cX6_pour 46 = .ok (.ireturn, 1) := by decide +kernel
theorem dX6_pour_47 : decode cX6_pour 47 = .ok (.aload_n 0, 1) := by decide +kernel
theorem dX6_pour_48 : decode cX6_pour 48 = .ok (.getfield 26, 3) := by decide +kernel
theorem dX6_pour_51 : decode cX6_pour 51 = .ok (.getfield 192, 3) := by decide +kernel
theorem dX6_pour_54 : decode cX6_pour 54 = .ok (.iload_n 1, 1) := by decide +kernel
theorem dX6_pour_55 : decode cX6_pour 55 = .ok (.iaload, 1) := by decide +kernel
theorem dX6_pour_56 : decode cX6_pour 56 = .ok (.istore_n 3, 1) := by decide +kernel
theorem dX6_pour_57 : decode cX6_pour 57 = .ok (.aload_n 0, 1) := by decide +kernel
theorem dX6_pour_58 : decode cX6_pour 58 = .ok (.getfield 26, 3) := by decide +kernel
theorem dX6_pour_61 : decode cX6_pour 61 = .ok (.iload_n 3, 1) := by decide +kernel
theorem dX6_pour_62 : decode cX6_pour 62 = .ok (.iload_n 2, 1) := by decide +kernel
theorem dX6_pour_63 : decode cX6_pour 63 = .ok (.invokevirtual 195, 3) := by decide +kernel
theorem dX6_pour_66 : decode cX6_pour 66 = .ok (.aload_n 0, 1) := by decide +kernel
theorem dX6_pour_67 : decode cX6_pour 67 = .ok (.getfield 26, 3) := by decide +kernel
theorem dX6_pour_70 : decode cX6_pour 70 = .ok (.getfield 192, 3) := by decide +kernel
theorem dX6_pour_73 : decode cX6_pour 73 = .ok (.iload_n 1, 1) := by decide +kernel
theorem dX6_pour_74 : decode cX6_pour 74 = .ok (.iconst 0, 1) := by decide +kernel
theorem dX6_pour_75 : decode cX6_pour 75 = .ok (.iastore, 1) := by decide +kernel
theorem dX6_pour_76 : decode cX6_pour 76 = .ok (.iload_n 3, 1) := by decide +kernel
theorem dX6_pour_77 : decode cX6_pour 77 = .ok (.ireturn, 1) := by decide +kernel
theorem dX6_bottle_0 : decode cX6_bottle 0 = .ok (.aload_n 0, 1) := by decide +kernel
theorem dX6_bottle_1 : decode cX6_bottle 1 = .ok (.iload_n 1, 1) := by decide +kernel
theorem dX6_bottle_2 : decode cX6_bottle 2 = .ok (.invokevirtual 189, 3) := by decide +kernel
theorem dX6_bottle_5 : decode cX6_bottle 5 = .ok (.ifCond .eq 15, 3) := by decide +kernel
theorem dX6_bottle_8 : decode cX6_bottle 8 = .ok (.aload_n 0, 1) := by decide +kernel
theorem dX6_bottle_9 : decode cX6_bottle 9 = .ok (.getfield 26, 3) := by decide +kernel
theorem dX6_bottle_12 : decode cX6_bottle 12 = .ok (.getfield 192, 3) := by decide +kernel
theorem dX6_bottle_15 : decode cX6_bottle 15 = .ok (.iload_n 1, 1) := by decide +kernel
theorem dX6_bottle_16 : decode cX6_bottle 16 = .ok (.iaload, 1) := by decide +kernel
theorem dX6_bottle_17 : decode cX6_bottle 17 = .ok (.goto 5, 3) := by decide +kernel
theorem dX6_bottle_20 : decode cX6_bottle 20 = .ok (.bipush (-101), 2) := by decide +kernel
theorem dX6_bottle_22 : decode cX6_bottle 22 = .ok (.ireturn, 1) := by decide +kernel
theorem dX6_would_0 : decode cX6_would 0 = .ok (.aload_n 0, 1) := by decide +kernel
theorem dX6_would_1 : decode cX6_would 1 = .ok (.getfield 19, 3) := by decide +kernel
theorem dX6_would_4 : decode cX6_would 4 = .ok (.invokevirtual 161, 3) := by decide +kernel
theorem dX6_would_7 : decode cX6_would 7 = .ok (.ifCond .eq 17, 3) := by decide +kernel
theorem dX6_would_10 : decode cX6_would 10 = .ok (.aload_n 0, 1) := by decide +kernel
theorem dX6_would_11 : decode cX6_would 11 = .ok (.getfield 19, 3) := by decide +kernel
theorem dX6_would_14 : decode cX6_would 14 = .ok (.aload_n 0, 1) := by decide +kernel
theorem dX6_would_15 : decode cX6_would 15 = .ok (.getfield 26, 3) := by decide +kernel
theorem dX6_would_18 : decode cX6_would 18 = .ok (.invokevirtual 171, 3) := by decide +kernel
theorem dX6_would_21 : decode cX6_would 21 = .ok (.goto 5, 3) := by decide +kernel
theorem dX6_would_24 : decode cX6_would 24 = .ok (.bipush (-103), 2) := by decide +kernel
theorem dX6_would_26 : decode cX6_would 26 = .ok (.ireturn, 1) := by decide +kernel
theorem dX6_few_0 : decode cX6_few 0 = .ok (.iload_n 1, 1) := by decide +kernel
theorem dX6_few_1 : decode cX6_few 1 = .ok (.ifCond .eq 21, 3) := by decide +kernel
theorem dX6_few_4 : decode cX6_few 4 = .ok (.aload_n 0, 1) := by decide +kernel
theorem dX6_few_5 : decode cX6_few 5 = .ok (.getfield 19, 3) := by decide +kernel
theorem dX6_few_8 : decode cX6_few 8 = .ok (.iload_n 1, 1) := by decide +kernel
theorem dX6_few_9 : decode cX6_few 9 = .ok (.invokevirtual 199, 3) := by decide +kernel
theorem dX6_few_12 : decode cX6_few 12 = .ok (.ifCond .eq 10, 3) := by decide +kernel
theorem dX6_few_15 : decode cX6_few 15 = .ok (.iload_n 2, 1) := by decide +kernel
theorem dX6_few_16 : decode cX6_few 16 = .ok (.invokestatic 202, 3) := by decide +kernel
theorem dX6_few_19 : decode cX6_few 19 = .ok (.ifCond .ne 6, 3) := by decide +kernel
theorem dX6_few_22 : decode cX6_few 22 = .ok (.bipush (-102), 2) := by decide +kernel
theorem dX6_few_24 : decode cX6_few 24 = .ok (.ireturn, 1) := by decide +kernel
theorem dX6_few_25 : decode cX6_few 25 = .ok (.aload_n 0, 1) := by decide +kernel
theorem dX6_few_26 : decode cX6_few 26 = .ok (.getfield 205, 3) := by decide +kernel
theorem dX6_few_29 : decode cX6_few 29 = .ok (.bipush 30, 2) := by decide +kernel
theorem dX6_few_31 : decode cX6_few 31 = .ok (.if_icmp .lt 6, 3) := by decide +kernel
theorem dX6_few_34 : decode cX6_few 34 = .ok (.bipush (-103), 2) := by decide +kernel
theorem dX6_few_36 : decode cX6_few 36 = .ok (.ireturn, 1) := by decide +kernel
theorem dX6_few_37 : decode cX6_few 37 = .ok (.aload_n 0, 1) := by decide +kernel
theorem dX6_few_38 : decode cX6_few 38 = .ok (.dup, 1) := by decide +kernel
theorem dX6_few_39 : decode cX6_few 39 = .ok (.getfield 205, 3) := by decide +kernel
theorem dX6_few_42 : decode cX6_few 42 = .ok (.iconst 1, 1) := by decide +kernel
theorem dX6_few_43 : decode cX6_few 43 = .ok (.iadd, 1) := by decide +kernel
theorem dX6_few_44 : decode cX6_few 44 = .ok (.putfield 205, 3) := by decide +kernel
theorem dX6_few_47 : decode cX6_few 47 = .ok (.aload_n 0, 1) := by decide +kernel
theorem dX6_few_48 : decode cX6_few 48 = .ok (.getfield 36, 3) := by decide +kernel
theorem dX6_few_51 : decode cX6_few 51 = .ok (.aload_n 0, 1) := by decide +kernel
theorem dX6_few_52 : decode cX6_few 52 = .ok (.getfield 19, 3) := by decide +kernel
theorem dX6_few_55 : decode cX6_few 55 = .ok (.aload_n 0, 1) := by decide +kernel
theorem dX6_few_56 : decode cX6_few 56 = .ok (.getfield 26, 3) := by decide +kernel
theorem dX6_few_59 : decode cX6_few 59 = .ok (.iload_n 1, 1) := by decide +kernel
theorem dX6_few_60 : decode cX6_few 60 = .ok (.invokevirtual 208, 3) := by decide +kernel
theorem dX6_few_63 : decode cX6_few 63 = .ok (.aload_n 0, 1) := by decide +kernel
theorem dX6_few_64 : decode cX6_few 64 = .ok (.getfield 36, 3) := by decide +kernel
theorem dX6_few_67 : decode cX6_few 67 = .ok (.iload_n 2, 1) := by decide +kernel
theorem dX6_few_68 : decode cX6_few 68 = .ok (.aload_n 0, 1) := by decide +kernel
theorem dX6_few_69 : decode cX6_few 69 = .ok (.getfield 36, 3) := by decide +kernel
theorem dX6_few_72 : decode cX6_few 72 = .ok (.getfield 106, 3) := by decide +kernel
theorem dX6_few_75 : decode cX6_few 75 = .ok (.invokevirtual 212, 3) := by decide +kernel
theorem dX6_few_78 : decode cX6_few 78 = .ok (.ireturn, 1) := by decide +kernel
theorem dX6_week_0 : decode cX6_week 0 = .ok (.iload_n 1, 1) := by decide +kernel
theorem dX6_week_1 : decode cX6_week 1 = .ok (.iconst 1, 1) := by decide +kernel
theorem dX6_week_2 : decode cX6_week 2 = .ok (.if_icmp .lt 15, 3) := by decide +kernel
theorem dX6_week_5 : decode cX6_week 5 = .ok (.iload_n 1, 1) := by decide +kernel
theorem dX6_week_6 : decode cX6_week 6 = .ok (.iconst 3, 1) := by decide +kernel
theorem dX6_week_7 : decode cX6_week 7 = .ok (.if_icmp .gt 10, 3) := by decide +kernel
theorem dX6_week_10 : decode cX6_week 10 = .ok (.iload_n 2, 1) := by decide +kernel
theorem dX6_week_11 : decode cX6_week 11 = .ok (.invokestatic 202, 3) := by decide +kernel
theorem dX6_week_14 : decode cX6_week 14 = .ok (.ifCond .ne 6, 3) := by decide +kernel
theorem dX6_week_17 : decode cX6_week 17 = .ok (.bipush (-102), 2) := by decide +kernel
theorem dX6_week_19 : decode cX6_week 19 = .ok (.ireturn, 1) := by decide +kernel
theorem dX6_week_20 : decode cX6_week 20 = .ok (.aload_n 0, 1) := by decide +kernel
theorem dX6_week_21 : decode cX6_week 21 = .ok (.getfield 19, 3) := by decide +kernel
theorem dX6_week_24 : decode cX6_week 24 = .ok (.invokevirtual 161, 3) := by decide +kernel
theorem dX6_week_27 : decode cX6_week 27 = .ok (.ifCond .eq 12, 3) := by decide +kernel
theorem dX6_week_30 : decode cX6_week 30 = .ok (.aload_n 0, 1) := by decide +kernel
theorem dX6_week_31 : decode cX6_week 31 = .ok (.getfield 215, 3) := by decide +kernel
theorem dX6_week_34 : decode cX6_week 34 = .ok (.bipush 20, 2) := by decide +kernel
theorem dX6_week_36 : decode cX6_week 36 = .ok (.if_icmp .lt 6, 3) := by decide +kernel
theorem dX6_week_39 : decode cX6_week 39 = .ok (.bipush (-103), 2) := by decide +kernel
theorem dX6_week_41 : decode cX6_week 41 = .ok (.ireturn, 1) := by decide +kernel
theorem dX6_week_42 : decode cX6_week 42 = .ok (.aload_n 0, 1) := by decide +kernel
theorem dX6_week_43 : decode cX6_week 43 = .ok (.dup, 1) := by decide +kernel
theorem dX6_week_44 : decode cX6_week 44 = .ok (.getfield 215, 3) := by decide +kernel
theorem dX6_week_47 : decode cX6_week 47 = .ok (.iconst 1, 1) := by decide +kernel
theorem dX6_week_48 : decode cX6_week 48 = .ok (.iadd, 1) := by decide +kernel
theorem dX6_week_49 : decode cX6_week 49 = .ok (.putfield 215, 3) := by decide +kernel
theorem dX6_week_52 : decode cX6_week 52 = .ok (.aload_n 0, 1) := by decide +kernel
theorem dX6_week_53 : decode cX6_week 53 = .ok (.getfield 36, 3) := by decide +kernel
theorem dX6_week_56 : decode cX6_week 56 = .ok (.aload_n 0, 1) := by decide +kernel
theorem dX6_week_57 : decode cX6_week 57 = .ok (.getfield 19, 3) := by decide +kernel
theorem dX6_week_60 : decode cX6_week 60 = .ok (.aload_n 0, 1) := by decide +kernel
theorem dX6_week_61 : decode cX6_week 61 = .ok (.getfield 26, 3) := by decide +kernel
theorem dX6_week_64 : decode cX6_week 64 = .ok (.iload_n 1, 1) := by decide +kernel
theorem dX6_week_65 : decode cX6_week 65 = .ok (.invokevirtual 218, 3) := by decide +kernel
theorem dX6_week_68 : decode cX6_week 68 = .ok (.aload_n 0, 1) := by decide +kernel
theorem dX6_week_69 : decode cX6_week 69 = .ok (.getfield 36, 3) := by decide +kernel
theorem dX6_week_72 : decode cX6_week 72 = .ok (.iload_n 2, 1) := by decide +kernel
theorem dX6_week_73 : decode cX6_week 73 = .ok (.iload_n 1, 1) := by decide +kernel
theorem dX6_week_74 : decode cX6_week 74 = .ok (.invokevirtual 212, 3) := by decide +kernel
theorem dX6_week_77 : decode cX6_week 77 = .ok (.ireturn, 1) := by decide +kernel
theorem dX6_who_0 : decode cX6_who 0 = .ok (.aload_n 0, 1) := by decide +kernel
theorem dX6_who_1 : decode cX6_who 1 = .ok (.getfield 19, 3) := by decide +kernel
theorem dX6_who_4 : decode cX6_who 4 = .ok (.iload_n 1, 1) := by decide +kernel
theorem dX6_who_5 : decode cX6_who 5 = .ok (.invokevirtual 199, 3) := by decide +kernel
theorem dX6_who_8 : decode cX6_who 8 = .ok (.ifCond .ne 6, 3) := by decide +kernel
theorem dX6_who_11 : decode cX6_who 11 = .ok (.bipush (-102), 2) := by decide +kernel
theorem dX6_who_13 : decode cX6_who 13 = .ok (.ireturn, 1) := by decide +kernel
theorem dX6_who_14 : decode cX6_who 14 = .ok (.aload_n 0, 1) := by decide +kernel
theorem dX6_who_15 : decode cX6_who 15 = .ok (.getfield 19, 3) := by decide +kernel
theorem dX6_who_18 : decode cX6_who 18 = .ok (.invokevirtual 161, 3) := by decide +kernel
theorem dX6_who_21 : decode cX6_who 21 = .ok (.ifCond .eq 22, 3) := by decide +kernel
theorem dX6_who_24 : decode cX6_who 24 = .ok (.aload_n 0, 1) := by decide +kernel
theorem dX6_who_25 : decode cX6_who 25 = .ok (.getfield 36, 3) := by decide +kernel
theorem dX6_who_28 : decode cX6_who 28 = .ok (.aload_n 0, 1) := by decide +kernel
theorem dX6_who_29 : decode cX6_who 29 = .ok (.getfield 19, 3) := by decide +kernel
theorem dX6_who_32 : decode cX6_who 32 = .ok (.aload_n 0, 1) := by decide +kernel
theorem dX6_who_33 : decode cX6_who 33 = .ok (.getfield 26, 3) := by decide +kernel
theorem dX6_who_36 : decode cX6_who 36 = .ok (.iload_n 1, 1) := by decide +kernel
theorem dX6_who_37 : decode cX6_who 37 = .ok (.invokevirtual 221, 3) := by decide +kernel
theorem dX6_who_40 : decode cX6_who 40 = .ok (.goto 5, 3) := by decide +kernel
theorem dX6_who_43 : decode cX6_who 43 = .ok (.bipush (-103), 2) := by decide +kernel
theorem dX6_who_45 : decode cX6_who 45 = .ok (.ireturn, 1) := by decide +kernel
theorem dX6_see_0 : decode cX6_see 0 = .ok (.aload_n 0, 1) := by decide +kernel
theorem dX6_see_1 : decode cX6_see 1 = .ok (.getfield 19, 3) := by decide +kernel
theorem dX6_see_4 : decode cX6_see 4 = .ok (.iload_n 1, 1) := by decide +kernel
theorem dX6_see_5 : decode cX6_see 5 = .ok (.invokevirtual 75, 3) := by decide +kernel
theorem dX6_see_8 : decode cX6_see 8 = .ok (.ifCond .ne 6, 3) := by decide +kernel
theorem dX6_see_11 : decode cX6_see 11 = .ok (.bipush (-101), 2) := by decide +kernel
theorem dX6_see_13 : decode cX6_see 13 = .ok (.ireturn, 1) := by decide +kernel
