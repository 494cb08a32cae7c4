theorem dX5_init_0 : decode cX5_init 0 = .ok (.aload_n 0, 1) := by decide +kernel
theorem dX5_init_1 : decode cX5_init 1 = .ok (.invokespecial 3, 3) := by decide +kernel
theorem dX5_init_4 : decode cX5_init 4 = .ok (.aload_n 0, 1) := by decide +kernel
theorem dX5_init_5 : decode cX5_init 5 = .ok (.iconst 4, 1) := by decide +kernel
theorem dX5_init_6 : decode cX5_init 6 = .ok (.newarray .int, 2) := by decide +kernel
theorem dX5_init_8 : decode cX5_init 8 = .ok (.putfield 9, 3) := by decide +kernel
theorem dX5_init_11 : decode cX5_init 11 = .ok (.aload_n 0, 1) := by decide +kernel
theorem dX5_init_12 : decode cX5_init 12 = .ok (.iconst 4, 1) := by decide +kernel
theorem dX5_init_13 : decode cX5_init 13 = .ok (.newarray .int, 2) := by decide +kernel
theorem dX5_init_15 : decode cX5_init 15 = .ok (.putfield 15, 3) := by decide +kernel
theorem dX5_init_18 : decode cX5_init 18 = .ok (.aload_n 0, 1) := by decide +kernel
theorem dX5_init_19 : decode cX5_init 19 = .ok (.bipush 12, 2) := by decide +kernel
theorem dX5_init_21 : decode cX5_init 21 = .ok (.newarray .int, 2) := by decide +kernel
theorem dX5_init_23 : decode cX5_init 23 = .ok (.putfield 18, 3) := by decide +kernel
theorem dX5_init_26 : decode cX5_init 26 = .ok (.aload_n 0, 1) := by decide +kernel
theorem dX5_init_27 : decode cX5_init 27 = .ok (.bipush 6, 2) := by decide +kernel
theorem dX5_init_29 : decode cX5_init 29 = .ok (.newarray .int, 2) := by decide +kernel
theorem dX5_init_31 : decode cX5_init 31 = .ok (.putfield 21, 3) := by decide +kernel
theorem dX5_init_34 : decode cX5_init 34 = .ok (.return_, 1) := by decide +kernel
theorem dX5_read_0 : decode cX5_read 0 = .ok (.aload_n 1, 1) := by decide +kernel
theorem dX5_read_1 : decode cX5_read 1 = .ok (.invokevirtual 24, 3) := by decide +kernel
theorem dX5_read_4 : decode cX5_read 4 = .ok (.istore_n 3, 1) := by decide +kernel
theorem dX5_read_5 : decode cX5_read 5 = .ok (.aload_n 0, 1) := by decide +kernel
theorem dX5_read_6 : decode cX5_read 6 = .ok (.iconst 4, 1) := by decide +kernel
theorem dX5_read_7 : decode cX5_read 7 = .ok (.iload_n 3, 1) := by decide +kernel
theorem dX5_read_8 : decode cX5_read 8 = .ok (.iconst 1, 1) := by decide +kernel
theorem dX5_read_9 : decode cX5_read 9 = .ok (.iadd, 1) := by decide +kernel
theorem dX5_read_10 : decode cX5_read 10 = .ok (.iconst 4, 1) := by decide +kernel
theorem dX5_read_11 : decode cX5_read 11 = .ok (.idiv, 1) := by decide +kernel
theorem dX5_read_12 : decode cX5_read 12 = .ok (.invokestatic 30, 3) := by decide +kernel
theorem dX5_read_15 : decode cX5_read 15 = .ok (.putfield 36, 3) := by decide +kernel
theorem dX5_read_18 : decode cX5_read 18 = .ok (.iconst 0, 1) := by decide +kernel
theorem dX5_read_19 : decode cX5_read 19 = .ok (.istore 4, 2) := by decide +kernel
theorem dX5_read_21 : decode cX5_read 21 = .ok (.iload 4, 2) := by decide +kernel
theorem dX5_read_23 : decode cX5_read 23 = .ok (.aload_n 0, 1) := by decide +kernel
theorem dX5_read_24 : decode cX5_read 24 = .ok (.getfield 36, 3) := by decide +kernel
theorem dX5_read_27 : decode cX5_read 27 = .ok (.if_icmp .ge 110, 3) := by decide +kernel
theorem dX5_read_30 : decode cX5_read 30 = .ok (.iload 4, 2) := by decide +kernel
theorem dX5_read_32 : decode cX5_read 32 = .ok (.iconst 4, 1) := by decide +kernel
theorem dX5_read_33 : decode cX5_read 33 = .ok (.imul, 1) := by decide +kernel
theorem dX5_read_34 : decode cX5_read 34 = .ok (.istore 5, 2) := by decide +kernel
theorem dX5_read_36 : decode cX5_read 36 = .ok (.aload_n 0, 1) := by decide +kernel
theorem dX5_read_37 : decode cX5_read 37 = .ok (.getfield 9, 3) := by decide +kernel
theorem dX5_read_40 : decode cX5_read 40 = .ok (.iload 4, 2) := by decide +kernel
theorem dX5_read_42 : decode cX5_read 42 = .ok (.ldc 40, 2) := by decide +kernel
theorem dX5_read_44 : decode cX5_read 44 = .ok (.aload_n 1, 1) := by decide +kernel
theorem dX5_read_45 : decode cX5_read 45 = .ok (.iload 5, 2) := by decide +kernel
theorem dX5_read_47 : decode cX5_read 47 = .ok (.invokevirtual 42, 3) := by decide +kernel
theorem dX5_read_50 : decode cX5_read 50 = .ok (.i2c, 1) := by decide +kernel
theorem dX5_read_51 : decode cX5_read 51 = .ok (.invokevirtual 46, 3) := by decide +kernel
theorem dX5_read_54 : decode cX5_read 54 = .ok (.iastore, 1) := by decide +kernel
theorem dX5_read_55 : decode cX5_read 55 = .ok (.aload_n 0, 1) := by decide +kernel
theorem dX5_read_56 : decode cX5_read 56 = .ok (.getfield 15, 3) := by decide +kernel
theorem dX5_read_59 : decode cX5_read 59 = .ok (.iload 4, 2) := by decide +kernel
theorem dX5_read_61 : decode cX5_read 61 = .ok (.aload_n 1, 1) := by decide +kernel
theorem dX5_read_62 : decode cX5_read 62 = .ok (.iload 5, 2) := by decide +kernel
theorem dX5_read_64 : decode cX5_read 64 = .ok (.iconst 1, 1) := by decide +kernel
theorem dX5_read_65 : decode cX5_read 65 = .ok (.iadd, 1) := by decide +kernel
theorem dX5_read_66 : decode cX5_read 66 = .ok (.invokevirtual 51, 3) := by decide +kernel
theorem dX5_read_69 : decode cX5_read 69 = .ok (.iastore, 1) := by decide +kernel
theorem dX5_read_70 : decode cX5_read 70 = .ok (.aload_n 2, 1) := by decide +kernel
theorem dX5_read_71 : decode cX5_read 71 = .ok (.getfield 54, 3) := by decide +kernel
theorem dX5_read_74 : decode cX5_read 74 = .ok (.iload 4, 2) := by decide +kernel
theorem dX5_read_76 : decode cX5_read 76 = .ok (.aload_n 1, 1) := by decide +kernel
theorem dX5_read_77 : decode cX5_read 77 = .ok (.iload 5, 2) := by decide +kernel
theorem dX5_read_79 : decode cX5_read 79 = .ok (.iconst 2, 1) := by decide +kernel
theorem dX5_read_80 : decode cX5_read 80 = .ok (.iadd, 1) := by decide +kernel
theorem dX5_read_81 : decode cX5_read 81 = .ok (.invokevirtual 51, 3) := by decide +kernel
theorem dX5_read_84 : decode cX5_read 84 = .ok (.iastore, 1) := by decide +kernel
theorem dX5_read_85 : decode cX5_read 85 = .ok (.iconst 0, 1) := by decide +kernel
theorem dX5_read_86 : decode cX5_read 86 = .ok (.istore 6, 2) := by decide +kernel
theorem dX5_read_88 : decode cX5_read 88 = .ok (.iload 6, 2) := by decide +kernel
theorem dX5_read_90 : decode cX5_read 90 = .ok (.iconst 3, 1) := by decide +kernel
theorem dX5_read_91 : decode cX5_read 91 = .ok (.if_icmp .ge 40, 3) := by decide +kernel
theorem dX5_read_94 : decode cX5_read 94 = .ok (.aload_n 0, 1) := by decide +kernel
theorem dX5_read_95 : decode cX5_read 95 = .ok (.getfield 18, 3) := by decide +kernel
theorem dX5_read_98 : decode cX5_read 98 = .ok (.iload 4, 2) := by decide +kernel
theorem dX5_read_100 : decode cX5_read 100 = .ok (.iconst 3, 1) := by decide +kernel
theorem dX5_read_101 : decode cX5_read 101 = .ok (.imul, 1) := by decide +kernel
theorem dX5_read_102 : decode cX5_read 102 = .ok (.iload 6, 2) := by decide +kernel
theorem dX5_read_104 : decode cX5_read 104 = .ok (.iadd, 1) := by decide +kernel
theorem dX5_read_105 : decode cX5_read 105 = .ok (.aload_n 0, 1) := by decide +kernel
theorem dX5_read_106 : decode cX5_read 106 = .ok (.getfield 9, 3) := by decide +kernel
theorem dX5_read_109 : decode cX5_read 109 = .ok (.iload 4, 2) := by decide +kernel
theorem dX5_read_111 : decode cX5_read 111 = .ok (.iaload, 1) := by decide +kernel
theorem dX5_read_112 : decode cX5_read 112 = .ok (.aload_n 0, 1) := by decide +kernel
theorem dX5_read_113 : decode cX5_read 113 = .ok (.getfield 15, 3) := by decide +kernel
theorem dX5_read_116 : decode cX5_read 116 = .ok (.iload 4, 2) := by decide +kernel
theorem dX5_read_118 : decode cX5_read 118 = .ok (.iaload, 1) := by decide +kernel
theorem dX5_read_119 : decode cX5_read 119 = .ok (.iload 6, 2) := by decide +kernel
theorem dX5_read_121 : decode cX5_read 121 = .ok (.invokestatic 59, 3) := by decide +kernel
theorem dX5_read_124 : decode cX5_read 124 = .ok (.iastore, 1) := by decide +kernel
theorem dX5_read_125 : decode cX5_read 125 = .ok (.iinc 6 1, 3) := by decide +kernel
theorem dX5_read_128 : decode cX5_read 128 = .ok (.goto (-40), 3) := by decide +kernel
theorem dX5_read_131 : decode cX5_read 131 = .ok (.iinc 4 1, 3) := by decide +kernel
theorem dX5_read_134 : decode cX5_read 134 = .ok (.goto (-113), 3) := by decide +kernel
theorem dX5_read_137 : decode cX5_read 137 = .ok (.aload_n 0, 1) := by decide +kernel
theorem dX5_read_138 : decode cX5_read 138 = .ok (.bipush 6, 2) := by decide +kernel
theorem dX5_read_140 : decode cX5_read 140 = .ok (.aload_n 1, 1) := by decide +kernel
theorem dX5_read_141 : decode cX5_read 141 = .ok (.getfield 65, 3) := by decide +kernel
theorem dX5_read_144 : decode cX5_read 144 = .ok (.iload_n 3, 1) := by decide +kernel
theorem dX5_read_145 : decode cX5_read 145 = .ok (.isub, 1) := by decide +kernel
theorem dX5_read_146 : decode cX5_read 146 = .ok (.iconst 1, 1) := by decide +kernel
theorem dX5_read_147 : decode cX5_read 147 = .ok (.isub, 1) := by decide +kernel
theorem dX5_read_148 : decode cX5_read 148 = .ok (.invokestatic 30, 3) := by decide +kernel
theorem dX5_read_151 : decode cX5_read 151 = .ok (.putfield 68, 3) := by decide +kernel
theorem dX5_read_154 : decode cX5_read 154 = .ok (.iconst 0, 1) := by decide +kernel
theorem dX5_read_155 : decode cX5_read 155 = .ok (.istore 4, 2) := by decide +kernel
theorem dX5_read_157 : decode cX5_read 157 = .ok (.iload 4, 2) := by decide +kernel
theorem dX5_read_159 : decode cX5_read 159 = .ok (.aload_n 0, 1) := by decide +kernel
theorem dX5_read_160 : decode cX5_read 160 = .ok (.getfield 68, 3) := by decide +kernel
theorem dX5_read_163 : decode cX5_read 163 = .ok (.if_icmp .ge 26, 3) := by decide +kernel
theorem dX5_read_166 : decode cX5_read 166 = .ok (.aload_n 0, 1) := by decide +kernel
theorem dX5_read_167 : decode cX5_read 167 = .ok (.getfield 21, 3) := by decide +kernel
theorem dX5_read_170 : decode cX5_read 170 = .ok (.iload 4, 2) := by decide +kernel
theorem dX5_read_172 : decode cX5_read 172 = .ok (.aload_n 1, 1) := by decide +kernel
theorem dX5_read_173 : decode cX5_read 173 = .ok (.iload_n 3, 1) := by decide +kernel
theorem dX5_read_174 : decode cX5_read 174 = .ok (.iconst 1, 1) := by decide +kernel
theorem dX5_read_175 : decode cX5_read 175 = .ok (.iadd, 1) := by decide +kernel
theorem dX5_read_176 : decode cX5_read 176 = .ok (.iload 4, 2) := by decide +kernel
theorem dX5_read_178 : decode cX5_read 178 = .ok (.iadd, 1) := by decide +kernel
theorem dX5_read_179 : decode cX5_read 179 = .ok (.invokevirtual 51, 3) := by decide +kernel
theorem dX5_read_182 : decode cX5_read 182 = .ok (.iastore, 1) := by decide +kernel
theorem dX5_read_183 : decode cX5_read 183 = .ok (.iinc 4 1, 3) := by decide +kernel
theorem dX5_read_186 : decode cX5_read 186 = .ok (.goto (-29), 3) := by decide +kernel
theorem dX5_read_189 : decode cX5_read 189 = .ok (.return_, 1) := by decide +kernel
theorem dX5_isThere_0 : decode cX5_isThere 0 = .ok (.aload_n 0, 1) := by decide +kernel
theorem dX5_isThere_1 : decode cX5_isThere 1 = .ok (.getfield 36, 3) := by decide +kernel
theorem dX5_isThere_4 : decode cX5_isThere 4 = .ok (.ifCond .le 7, 3) := by decide +kernel
theorem dX5_isThere_7 : decode cX5_isThere 7 = .ok (.iconst 1, 1) := by decide +kernel
theorem dX5_isThere_8 : decode cX5_isThere 8 = .ok (.goto 4, 3) := by decide +kernel
theorem dX5_isThere_11 : decode cX5_isThere 11 = .ok (.iconst 0, 1) := by decide +kernel
theorem dX5_isThere_12 : decode cX5_isThere 12 = .ok (.ireturn, 1) := by decide +kernel
theorem dX5_hasPerson_0 : decode cX5_hasPerson 0 = .ok (.iload_n 1, 1) := by decide +kernel
theorem dX5_hasPerson_1 : decode cX5_hasPerson 1 = .ok (.ifCond .lt 15, 3) := by decide +kernel
theorem dX5_hasPerson_4 : decode cX5_hasPerson 4 = .ok (.iload_n 1, 1) := by decide +kernel
theorem dX5_hasPerson_5 : decode cX5_hasPerson 5 = .ok (.aload_n 0, 1) := by decide +kernel
theorem dX5_hasPerson_6 : decode cX5_hasPerson 6 = .ok (.getfield 36, 3) := by decide +kernel
theorem dX5_hasPerson_9 : decode cX5_hasPerson 9 = .ok (.if_icmp .ge 7, 3) := by decide +kernel
theorem dX5_hasPerson_12 : decode cX5_hasPerson 12 = .ok (.iconst 1, 1) := by decide +kernel
theorem dX5_hasPerson_13 : decode cX5_hasPerson 13 = .ok (.goto 4, 3) := by decide +kernel
theorem dX5_hasPerson_16 : decode cX5_hasPerson 16 = .ok (.iconst 0, 1) := by decide +kernel
theorem dX5_hasPerson_17 : decode cX5_hasPerson 17 = .ok (.ireturn, 1) := by decide +kernel
theorem dX5_hasPail_0 : decode cX5_hasPail 0 = .ok (.iload_n 1, 1) := by decide +kernel
theorem dX5_hasPail_1 : decode cX5_hasPail 1 = .ok (.ifCond .lt 15, 3) := by decide +kernel
theorem dX5_hasPail_4 : decode cX5_hasPail 4 = .ok (.iload_n 1, 1) := by decide +kernel
theorem dX5_hasPail_5 : decode cX5_hasPail 5 = .ok (.aload_n 0, 1) := by decide +kernel
theorem dX5_hasPail_6 : decode cX5_hasPail 6 = .ok (.getfield 68, 3) := by decide +kernel
theorem dX5_hasPail_9 : decode cX5_hasPail 9 = .ok (.if_icmp .ge 7, 3) := by decide +kernel
theorem dX5_hasPail_12 : decode cX5_hasPail 12 = .ok (.iconst 1, 1) := by decide +kernel
theorem dX5_hasPail_13 : decode cX5_hasPail 13 = .ok (.goto 4, 3) := by decide +kernel
theorem dX5_hasPail_16 : decode cX5_hasPail 16 = .ok (.iconst 0, 1) := by decide +kernel
theorem dX5_hasPail_17 : decode cX5_hasPail 17 = .ok (.ireturn, 1) := by decide +kernel
theorem dX5_arePails_0 : decode cX5_arePails 0 = .ok (.iload_n 1, 1) := by decide +kernel
theorem dX5_arePails_1 : decode cX5_arePails 1 = .ok (.ifCond .lt 17, 3) := by decide +kernel
theorem dX5_arePails_4 : decode cX5_arePails 4 = .ok (.iload_n 1, 1) := by decide +kernel
theorem dX5_arePails_5 : decode cX5_arePails 5 = .ok (.iconst 1, 1) := by decide +kernel
theorem dX5_arePails_6 : decode cX5_arePails 6 = .ok (.aload_n 0, 1) := by decide +kernel
theorem dX5_arePails_7 : decode cX5_arePails 7 = .ok (.getfield 68, 3) := by decide +kernel
theorem dX5_arePails_10 : decode cX5_arePails 10 = .ok (.ishl, 1) := by decide +kernel
theorem dX5_arePails_11 : decode cX5_arePails 11 = .ok (.if_icmp .ge 7, 3) := by decide +kernel
theorem dX5_arePails_14 : decode cX5_arePails 14 = .ok (.iconst 1, 1) := by decide +kernel
theorem dX5_arePails_15 : decode cX5_arePails 15 = .ok (.goto 4, 3) := by decide +kernel
theorem dX5_arePails_18 : decode cX5_arePails 18 = .ok (.iconst 0, 1) := by decide +kernel
theorem dX5_arePails_19 : decode cX5_arePails 19 = .ok (.ireturn, 1) := by decide +kernel
theorem dX5_slightNumbers_0 : decode cX5_slightNumbers 0 = .ok (.aload_n 0, 1) := by decide +kernel
theorem dX5_slightNumbers_1 : decode cX5_slightNumbers 1 = .ok (.getfield 36, 3) := by decide +kernel
theorem dX5_slightNumbers_4 : decode cX5_slightNumbers 4 = .ok (.iconst 3, 1) := by decide +kernel
theorem dX5_slightNumbers_5 : decode cX5_slightNumbers 5 = .ok (.imul, 1) := by decide +kernel
theorem dX5_slightNumbers_6 : decode cX5_slightNumbers 6 = .ok (.ireturn, 1) := by decide +kernel
theorem dX5_hasSlight_0 : decode cX5_hasSlight 0 = .ok (.iload_n 1, 1) := by decide +kernel
theorem dX5_hasSlight_1 : decode cX5_hasSlight 1 = .ok (.ifCond .lt 17, 3) := by decide +kernel
theorem dX5_hasSlight_4 : decode cX5_hasSlight 4 = .ok (.iload_n 1, 1) := by decide +kernel
theorem dX5_hasSlight_5 : decode cX5_hasSlight 5 = .ok (.aload_n 0, 1) := by decide +kernel
theorem dX5_hasSlight_6 : decode cX5_hasSlight 6 = .ok (.getfield 36, 3) := by decide +kernel
theorem dX5_hasSlight_9 : decode cX5_hasSlight 9 = .ok (.iconst 3, 1) := by decide +kernel
theorem dX5_hasSlight_10 : decode cX5_hasSlight 10 = .ok (.imul, 1) := by decide +kernel
theorem dX5_hasSlight_11 : decode cX5_hasSlight 11 = .ok (.if_icmp .ge 7, 3) := by decide +kernel
theorem dX5_hasSlight_14 : decode cX5_hasSlight 14 = .ok (.iconst 1, 1) := by decide +kernel
theorem dX5_hasSlight_15 : decode cX5_hasSlight 15 = .ok (.goto 4, 3) := by decide +kernel
theorem dX5_hasSlight_18 : decode cX5_hasSlight 18 = .ok (.iconst 0, 1) := by decide +kernel
theorem dX5_hasSlight_19 : decode cX5_hasSlight 19 = .ok (.ireturn, 1) := by decide +kernel
theorem dX5_growth_0 : decode cX5_growth 0 = .ok (.aload_n 0, 1) := by decide +kernel
theorem dX5_growth_1 : decode cX5_growth 1 = .ok (.iload_n 2, 1) := by decide +kernel
theorem dX5_growth_2 : decode cX5_growth 2 = .ok (.invokevirtual 71, 3) := by decide +kernel
theorem dX5_growth_5 : decode cX5_growth 5 = .ok (.ifCond .ne 5, 3) := by decide +kernel
theorem dX5_growth_8 : decode cX5_growth 8 = .ok (.iconst 0, 1) := by decide +kernel
theorem dX5_growth_9 : decode cX5_growth 9 = .ok (.ireturn, 1) := by decide +kernel
theorem dX5_growth_10 : decode cX5_growth 10 = .ok (.aload_n 0, 1) := by decide +kernel
theorem dX5_growth_11 : decode cX5_growth 11 = .ok (.getfield 18, 3) := by decide +kernel
theorem dX5_growth_14 : decode cX5_growth 14 = .ok (.iload_n 2, 1) := by decide +kernel
theorem dX5_growth_15 : decode cX5_growth 15 = .ok (.iaload, 1) := by decide +kernel
theorem dX5_growth_16 : decode cX5_growth 16 = .ok (.bipush 99, 2) := by decide +kernel
theorem dX5_growth_18 : decode cX5_growth 18 = .ok (.aload_n 1, 1) := by decide +kernel
theorem dX5_growth_19 : decode cX5_growth 19 = .ok (.getfield 75, 3) := by decide +kernel
theorem dX5_growth_22 : decode cX5_growth 22 = .ok (.iload_n 2, 1) := by decide +kernel
theorem dX5_growth_23 : decode cX5_growth 23 = .ok (.iconst 3, 1) := by decide +kernel
theorem dX5_growth_24 : decode cX5_growth 24 = .ok (.idiv, 1) := by decide +kernel
theorem dX5_growth_25 : decode cX5_growth 25 = .ok (.iaload, 1) := by decide +kernel
theorem dX5_growth_26 : decode cX5_growth 26 = .ok (.isub, 1) := by decide +kernel
theorem dX5_growth_27 : decode cX5_growth 27 = .ok (.invokestatic 30, 3) := by decide +kernel
theorem dX5_growth_30 : decode cX5_growth 30 = .ok (.ireturn, 1) := by decide +kernel
theorem dX5_offend_0 : decode cX5_offend 0 = .ok (.aload_n 0, 1) := by decide +kernel
theorem dX5_offend_1 : decode cX5_offend 1 = .ok (.iload_n 2, 1) := by decide +kernel
theorem dX5_offend_2 : decode cX5_offend 2 = .ok (.invokevirtual 71, 3) := by decide +kernel
theorem dX5_offend_5 : decode cX5_offend 5 = .ok (.ifCond .eq 31, 3) := by decide +kernel
theorem dX5_offend_8 : decode cX5_offend 8 = .ok (.iload_n 2, 1) := by decide +kernel
theorem dX5_offend_9 : decode cX5_offend 9 = .ok (.iconst 3, 1) := by decide +kernel
theorem dX5_offend_10 : decode cX5_offend 10 = .ok (.idiv, 1) := by decide +kernel
theorem dX5_offend_11 : decode cX5_offend 11 = .ok (.istore_n 3, 1) := by decide +kernel
theorem dX5_offend_12 : decode cX5_offend 12 = .ok (.aload_n 1, 1) := by decide +kernel
theorem dX5_offend_13 : decode cX5_offend 13 = .ok (.getfield 75, 3) := by decide +kernel
theorem dX5_offend_16 : decode cX5_offend 16 = .ok (.iload_n 3, 1) := by decide +kernel
theorem dX5_offend_17 : decode cX5_offend 17 = .ok (.bipush 99, 2) := by decide +kernel
theorem dX5_offend_19 : decode cX5_offend 19 = .ok (.aload_n 1, 1) := by decide +kernel
theorem dX5_offend_20 : decode cX5_offend 20 = .ok (.getfield 75, 3) := by decide +kernel
theorem dX5_offend_23 : decode cX5_offend 23 = .ok (.iload_n 3, 1) := by decide +kernel
theorem dX5_offend_24 : decode cX5_offend 24 = .ok (.iaload, 1) := by decide +kernel
theorem dX5_offend_25 : decode cX5_offend 25 = .ok (.aload_n 0, 1) := by decide +kernel
theorem dX5_offend_26 : decode cX5_offend 26 = .ok (.getfield 18, 3) := by decide +kernel
theorem dX5_offend_29 : decode cX5_offend 29 = .ok (.iload_n 2, 1) := by decide +kernel
theorem dX5_offend_30 : decode cX5_offend 30 = .ok (.iaload, 1) := by decide +kernel
theorem dX5_offend_31 : decode cX5_offend 31 = .ok (.iadd, 1) := by decide +kernel
theorem dX5_offend_32 : decode cX5_offend 32 = .ok (.invokestatic 30, 3) := by decide +kernel
theorem dX5_offend_35 : decode cX5_offend 35 = .ok (.iastore, 1) := by decide +kernel
theorem dX5_offend_36 : decode cX5_offend 36 = .ok (.return_, 1) := by decide +kernel
theorem dX5_passNight_0 : decode cX5_passNight 0 = .ok (.iconst 0, 1) := by decide +kernel
theorem dX5_passNight_1 : decode cX5_passNight 1 = .ok (.istore_n 2, 1) := by decide +kernel
theorem dX5_passNight_2 : decode cX5_passNight 2 = .ok (.iload_n 2, 1) := by decide +kernel
theorem dX5_passNight_3 : decode cX5_passNight 3 = .ok (.aload_n 0, 1) := by decide +kernel
theorem dX5_passNight_4 : decode cX5_passNight 4 = .ok (.getfield 36, 3) := by decide +kernel
theorem dX5_passNight_7 : decode cX5_passNight 7 = .ok (.if_icmp .ge 30, 3) := by decide +kernel
theorem dX5_passNight_10 : decode cX5_passNight 10 = .ok (.aload_n 1, 1) := by decide +kernel
theorem dX5_passNight_11 : decode cX5_passNight 11 = .ok (.getfield 75, 3) := by decide +kernel
theorem dX5_passNight_14 : decode cX5_passNight 14 = .ok (.iload_n 2, 1) := by decide +kernel
theorem dX5_passNight_15 : decode cX5_passNight 15 = .ok (.aload_n 0, 1) := by decide +kernel
theorem dX5_passNight_16 : decode cX5_passNight 16 = .ok (.getfield 9, 3) := by decide +kernel
theorem dX5_passNight_19 : decode cX5_passNight 19 = .ok (.iload_n 2, 1) := by decide +kernel
theorem dX5_passNight_20 : decode cX5_passNight 20 = .ok (.iaload, 1) := by decide +kernel
theorem dX5_passNight_21 : decode cX5_passNight 21 = .ok (.aload_n 1, 1) := by decide +kernel
theorem dX5_passNight_22 : decode cX5_passNight 22 = .ok (.getfield 75, 3) := by decide +kernel
theorem dX5_passNight_25 : decode cX5_passNight 25 = .ok (.iload_n 2, 1) := by decide +kernel
theorem dX5_passNight_26 : decode cX5_passNight 26 = .ok (.iaload, 1) := by decide +kernel
theorem dX5_passNight_27 : decode cX5_passNight 27 = .ok (.invokestatic 78, 3) := by decide +kernel
theorem dX5_passNight_30 : decode cX5_passNight 30 = .ok (.iastore, 1) := by decide +kernel
theorem dX5_passNight_31 : decode cX5_passNight 31 = .ok (.iinc 2 1, 3) := by decide +kernel
theorem dX5_passNight_34 : decode cX5_passNight 34 = .ok (.goto (-32), 3) := by decide +kernel
theorem dX5_passNight_37 : decode cX5_passNight 37 = .ok (.return_, 1) := by decide +kernel
theorem dX5_wouldSet_0 : decode cX5_wouldSet 0 = .ok (.aload_n 0, 1) := by decide +kernel
theorem dX5_wouldSet_1 : decode cX5_wouldSet 1 = .ok (.iload_n 2, 1) := by decide +kernel
theorem dX5_wouldSet_2 : decode cX5_wouldSet 2 = .ok (.invokevirtual 81, 3) := by decide +kernel
theorem dX5_wouldSet_5 : decode cX5_wouldSet 5 = .ok (.ifCond .eq 21, 3) := by decide +kernel
theorem dX5_wouldSet_8 : decode cX5_wouldSet 8 = .ok (.aload_n 1, 1) := by decide +kernel
theorem dX5_wouldSet_9 : decode cX5_wouldSet 9 = .ok (.iload_n 2, 1) := by decide +kernel
theorem dX5_wouldSet_10 : decode cX5_wouldSet 10 = .ok (.invokevirtual 84, 3) := by decide +kernel
theorem dX5_wouldSet_13 : decode cX5_wouldSet 13 = .ok (.aload_n 0, 1) := by decide +kernel
theorem dX5_wouldSet_14 : decode cX5_wouldSet 14 = .ok (.getfield 21, 3) := by decide +kernel
theorem dX5_wouldSet_17 : decode cX5_wouldSet 17 = .ok (.iload_n 2, 1) := by decide +kernel
theorem dX5_wouldSet_18 : decode cX5_wouldSet 18 = .ok (.iaload, 1) := by decide +kernel
theorem dX5_wouldSet_19 : decode cX5_wouldSet 19 = .ok (.if_icmp .lt 7, 3) := by decide +kernel
theorem dX5_wouldSet_22 : decode cX5_wouldSet 22 = .ok (.iconst 1, 1) := by decide +kernel
theorem dX5_wouldSet_23 : decode cX5_wouldSet 23 = .ok (.goto 4, 3) := by decide +kernel
theorem dX5_wouldSet_26 : decode cX5_wouldSet 26 = .ok (.iconst 0, 1) := by decide +kernel
theorem dX5_wouldSet_27 : decode cX5_wouldSet 27 = .ok (.ireturn, 1) := by decide +kernel
theorem dX5_allThatWouldSet_0 : decode cX5_allThatWouldSet 0 = .ok (.iconst 0, 1) := by decide +kernel
theorem dX5_allThatWouldSet_1 : decode cX5_allThatWouldSet 1 = .ok (.istore_n 2, 1) := by decide +kernel
theorem dX5_allThatWouldSet_2 : decode cX5_allThatWouldSet 2 = .ok (.iconst 0, 1) := by decide +kernel
theorem dX5_allThatWouldSet_3 : decode cX5_allThatWouldSet 3 = .ok (.istore_n 3, 1) := by decide +kernel
theorem dX5_allThatWouldSet_4 : decode cX5_allThatWouldSet 4 = .ok (.iload_n 3, 1) := by decide +kernel
theorem dX5_allThatWouldSet_5 : decode cX5_allThatWouldSet 5 = .ok (.aload_n 0, 1) := by decide +kernel
theorem dX5_allThatWouldSet_6 : decode cX5_allThatWouldSet 6 = .ok (.getfield 68, 3) := by decide +kernel
theorem dX5_allThatWouldSet_9 : decode cX5_allThatWouldSet 9 = .ok (.if_icmp .ge 29, 3) := by decide +kernel
theorem dX5_allThatWouldSet_12 : decode cX5_allThatWouldSet 12 = .ok (.aload_n 1, 1) := by decide +kernel
theorem dX5_allThatWouldSet_13 : decode cX5_allThatWouldSet 13 = .ok (.iload_n 3, 1) := by decide +kernel
theorem dX5_allThatWouldSet_14 : decode cX5_allThatWouldSet 14 = .ok (.invokevirtual 84, 3) := by decide +kernel
theorem dX5_allThatWouldSet_17 : decode cX5_allThatWouldSet 17 = .ok (.aload_n 0, 1) := by decide +kernel
theorem dX5_allThatWouldSet_18 : decode cX5_allThatWouldSet 18 = .ok (.getfield 21, 3) := by decide +kernel
theorem dX5_allThatWouldSet_21 : decode cX5_allThatWouldSet 21 = .ok (.iload_n 3, 1) := by decide +kernel
theorem dX5_allThatWouldSet_22 : decode cX5_allThatWouldSet 22 = .ok (.iaload, 1) := by decide +kernel
theorem dX5_allThatWouldSet_23 : decode cX5_allThatWouldSet 23 = .ok (.if_icmp .lt 9, 3) := by decide +kernel
theorem dX5_allThatWouldSet_26 : decode cX5_allThatWouldSet 26 = .ok (.iload_n 2, 1) := by decide +kernel
theorem dX5_allThatWouldSet_27 : decode cX5_allThatWouldSet 27 = .ok (.iconst 1, 1) := by decide +kernel
theorem dX5_allThatWouldSet_28 : decode cX5_allThatWouldSet 28 = .ok (.iload_n 3, 1) := by decide +kernel
theorem dX5_allThatWouldSet_29 : decode cX5_allThatWouldSet 29 = .ok (.ishl, 1) := by decide +kernel
theorem dX5_allThatWouldSet_30 : decode cX5_allThatWouldSet 30 = .ok (.ior, 1) := by decide +kernel
theorem dX5_allThatWouldSet_31 : decode cX5_allThatWouldSet 31 = .ok (.istore_n 2, 1) := by decide +kernel
theorem dX5_allThatWouldSet_32 : decode cX5_allThatWouldSet 32 = .ok (.iinc 3 1, 3) := by decide +kernel
theorem dX5_allThatWouldSet_35 : decode cX5_allThatWouldSet 35 = .ok (.goto (-31), 3) := by decide +kernel
theorem dX5_allThatWouldSet_38 : decode cX5_allThatWouldSet 38 = .ok (.iload_n 2, 1) := by decide +kernel
theorem dX5_allThatWouldSet_39 : decode cX5_allThatWouldSet 39 = .ok (.ireturn, 1) := by decide +kernel
