theorem dX1_init_0 : decode cX1_init 0 = .ok (.aload_n 0, 1) := by decide +kernel
theorem dX1_init_1 : decode cX1_init 1 = .ok (.invokespecial 3, 3) := by decide +kernel
theorem dX1_init_4 : decode cX1_init 4 = .ok (.aload_n 0, 1) := by decide +kernel
theorem dX1_init_5 : decode cX1_init 5 = .ok (.bipush 24, 2) := by decide +kernel
theorem dX1_init_7 : decode cX1_init 7 = .ok (.newarray .int, 2) := by decide +kernel
theorem dX1_init_9 : decode cX1_init 9 = .ok (.putfield 9, 3) := by decide +kernel
theorem dX1_init_12 : decode cX1_init 12 = .ok (.return_, 1) := by decide +kernel
theorem dX1_add_0 : decode cX1_add 0 = .ok (.aload_n 0, 1) := by decide +kernel
theorem dX1_add_1 : decode cX1_add 1 = .ok (.getfield 15, 3) := by decide +kernel
theorem dX1_add_4 : decode cX1_add 4 = .ok (.aload_n 0, 1) := by decide +kernel
theorem dX1_add_5 : decode cX1_add 5 = .ok (.getfield 9, 3) := by decide +kernel
theorem dX1_add_8 : decode cX1_add 8 = .ok (.arraylength, 1) := by decide +kernel
theorem dX1_add_9 : decode cX1_add 9 = .ok (.if_icmp .ge 23, 3) := by decide +kernel
theorem dX1_add_12 : decode cX1_add 12 = .ok (.aload_n 0, 1) := by decide +kernel
theorem dX1_add_13 : decode cX1_add 13 = .ok (.getfield 9, 3) := by decide +kernel
theorem dX1_add_16 : decode cX1_add 16 = .ok (.aload_n 0, 1) := by decide +kernel
theorem dX1_add_17 : decode cX1_add 17 = .ok (.getfield 15, 3) := by decide +kernel
theorem dX1_add_20 : decode cX1_add 20 = .ok (.iload_n 1, 1) := by decide +kernel
theorem dX1_add_21 : decode cX1_add 21 = .ok (.iastore, 1) := by decide +kernel
theorem dX1_add_22 : decode cX1_add 22 = .ok (.aload_n 0, 1) := by decide +kernel
theorem dX1_add_23 : decode cX1_add 23 = .ok (.dup, 1) := by decide +kernel
theorem dX1_add_24 : decode cX1_add 24 = .ok (.getfield 15, 3) := by decide +kernel
theorem dX1_add_27 : decode cX1_add 27 = .ok (.iconst 1, 1) := by decide +kernel
theorem dX1_add_28 : decode cX1_add 28 = .ok (.iadd, 1) := by decide +kernel
theorem dX1_add_29 : decode cX1_add 29 = .ok (.putfield 15, 3) := by decide +kernel
theorem dX1_add_32 : decode cX1_add 32 = .ok (.return_, 1) := by decide +kernel
theorem dX1_clear_0 : decode cX1_clear 0 = .ok (.aload_n 0, 1) := by decide +kernel
theorem dX1_clear_1 : decode cX1_clear 1 = .ok (.getfield 15, 3) := by decide +kernel
theorem dX1_clear_4 : decode cX1_clear 4 = .ok (.istore_n 1, 1) := by decide +kernel
theorem dX1_clear_5 : decode cX1_clear 5 = .ok (.aload_n 0, 1) := by decide +kernel
theorem dX1_clear_6 : decode cX1_clear 6 = .ok (.iconst 0, 1) := by decide +kernel
theorem dX1_clear_7 : decode cX1_clear 7 = .ok (.putfield 15, 3) := by decide +kernel
theorem dX1_clear_10 : decode cX1_clear 10 = .ok (.iload_n 1, 1) := by decide +kernel
theorem dX1_clear_11 : decode cX1_clear 11 = .ok (.ireturn, 1) := by decide +kernel
theorem dX1_codeAt_0 : decode cX1_codeAt 0 = .ok (.iload_n 1, 1) := by decide +kernel
theorem dX1_codeAt_1 : decode cX1_codeAt 1 = .ok (.ifCond .lt 20, 3) := by decide +kernel
theorem dX1_codeAt_4 : decode cX1_codeAt 4 = .ok (.iload_n 1, 1) := by decide +kernel
theorem dX1_codeAt_5 : decode cX1_codeAt 5 = .ok (.aload_n 0, 1) := by decide +kernel
theorem dX1_codeAt_6 : decode cX1_codeAt 6 = .ok (.getfield 15, 3) := by decide +kernel
theorem dX1_codeAt_9 : decode cX1_codeAt 9 = .ok (.if_icmp .ge 12, 3) := by decide +kernel
theorem dX1_codeAt_12 : decode cX1_codeAt 12 = .ok (.aload_n 0, 1) := by decide +kernel
theorem dX1_codeAt_13 : decode cX1_codeAt 13 = .ok (.getfield 9, 3) := by decide +kernel
theorem dX1_codeAt_16 : decode cX1_codeAt 16 = .ok (.iload_n 1, 1) := by decide +kernel
theorem dX1_codeAt_17 : decode cX1_codeAt 17 = .ok (.iaload, 1) := by decide +kernel
theorem dX1_codeAt_18 : decode cX1_codeAt 18 = .ok (.goto 4, 3) := by decide +kernel
theorem dX1_codeAt_21 : decode cX1_codeAt 21 = .ok (.iconst 0, 1) := by decide +kernel
theorem dX1_codeAt_22 : decode cX1_codeAt 22 = .ok (.ireturn, 1) := by decide +kernel
theorem dX1_digitAt_0 : decode cX1_digitAt 0 = .ok (.aload_n 0, 1) := by decide +kernel
theorem dX1_digitAt_1 : decode cX1_digitAt 1 = .ok (.iload_n 1, 1) := by decide +kernel
theorem dX1_digitAt_2 : decode cX1_digitAt 2 = .ok (.invokevirtual 19, 3) := by decide +kernel
theorem dX1_digitAt_5 : decode cX1_digitAt 5 = .ok (.bipush 48, 2) := by decide +kernel
theorem dX1_digitAt_7 : decode cX1_digitAt 7 = .ok (.isub, 1) := by decide +kernel
theorem dX1_digitAt_8 : decode cX1_digitAt 8 = .ok (.ireturn, 1) := by decide +kernel
theorem dX1_firstFault_0 : decode cX1_firstFault 0 = .ok (.iconst 0, 1) := by decide +kernel
theorem dX1_firstFault_1 : decode cX1_firstFault 1 = .ok (.istore_n 1, 1) := by decide +kernel
theorem dX1_firstFault_2 : decode cX1_firstFault 2 = .ok (.aload_n 0, 1) := by decide +kernel
theorem dX1_firstFault_3 : decode cX1_firstFault 3 = .ok (.invokevirtual 23, 3) := by decide +kernel
theorem dX1_firstFault_6 : decode cX1_firstFault 6 = .ok (.istore_n 2, 1) := by decide +kernel
theorem dX1_firstFault_7 : decode cX1_firstFault 7 = .ok (.iconst 0, 1) := by decide +kernel
theorem dX1_firstFault_8 : decode cX1_firstFault 8 = .ok (.istore_n 3, 1) := by decide +kernel
theorem dX1_firstFault_9 : decode cX1_firstFault 9 = .ok (.iload_n 3, 1) := by decide +kernel
theorem dX1_firstFault_10 : decode cX1_firstFault 10 = .ok (.aload_n 0, 1) := by decide +kernel
theorem dX1_firstFault_11 : decode cX1_firstFault 11 = .ok (.getfield 15, 3) := by decide +kernel
theorem dX1_firstFault_14 : decode cX1_firstFault 14 = .ok (.if_icmp .ge 50, 3) := by decide +kernel
theorem dX1_firstFault_17 : decode cX1_firstFault 17 = .ok (.iload_n 1, 1) := by decide +kernel
theorem dX1_firstFault_18 : decode cX1_firstFault 18 = .ok (.ifCond .eq 15, 3) := by decide +kernel
theorem dX1_firstFault_21 : decode cX1_firstFault 21 = .ok (.aload_n 0, 1) := by decide +kernel
theorem dX1_firstFault_22 : decode cX1_firstFault 22 = .ok (.iload_n 3, 1) := by decide +kernel
theorem dX1_firstFault_23 : decode cX1_firstFault 23 = .ok (.iload_n 2, 1) := by decide +kernel
theorem dX1_firstFault_24 : decode cX1_firstFault 24 = .ok (.invokevirtual 27, 3) := by decide +kernel
theorem dX1_firstFault_27 : decode cX1_firstFault 27 = .ok (.ifCond .eq 14, 3) := by decide +kernel
theorem dX1_firstFault_30 : decode cX1_firstFault 30 = .ok (.goto 13, 3) := by decide +kernel
theorem dX1_firstFault_33 : decode cX1_firstFault 33 = .ok (.aload_n 0, 1) := by decide +kernel
theorem dX1_firstFault_34 : decode cX1_firstFault 34 = .ok (.iload_n 3, 1) := by decide +kernel
theorem dX1_firstFault_35 : decode cX1_firstFault 35 = .ok (.invokevirtual 31, 3) := by decide +kernel
theorem dX1_firstFault_38 : decode cX1_firstFault 38 = .ok (.ifCond .ne 5, 3) := by decide +kernel
theorem dX1_firstFault_41 : decode cX1_firstFault 41 = .ok (.iload_n 3, 1) := by decide +kernel
theorem dX1_firstFault_42 : decode cX1_firstFault 42 = .ok (.ireturn, 1) := by decide +kernel
theorem dX1_firstFault_43 : decode cX1_firstFault 43 = .ok (.iload_n 1, 1) := by decide +kernel
theorem dX1_firstFault_44 : decode cX1_firstFault 44 = .ok (.ifCond .ne 8, 3) := by decide +kernel
theorem dX1_firstFault_47 : decode cX1_firstFault 47 = .ok (.iload_n 3, 1) := by decide +kernel
theorem dX1_firstFault_48 : decode cX1_firstFault 48 = .ok (.iload_n 2, 1) := by decide +kernel
theorem dX1_firstFault_49 : decode cX1_firstFault 49 = .ok (.if_icmp .ne 7, 3) := by decide +kernel
theorem dX1_firstFault_52 : decode cX1_firstFault 52 = .ok (.iconst 1, 1) := by decide +kernel
theorem dX1_firstFault_53 : decode cX1_firstFault 53 = .ok (.goto 4, 3) := by decide +kernel
theorem dX1_firstFault_56 : decode cX1_firstFault 56 = .ok (.iconst 0, 1) := by decide +kernel
theorem dX1_firstFault_57 : decode cX1_firstFault 57 = .ok (.istore_n 1, 1) := by decide +kernel
theorem dX1_firstFault_58 : decode cX1_firstFault 58 = .ok (.iinc 3 1, 3) := by decide +kernel
theorem dX1_firstFault_61 : decode cX1_firstFault 61 = .ok (.goto (-52), 3) := by decide +kernel
theorem dX1_firstFault_64 : decode cX1_firstFault 64 = .ok (.aload_n 0, 1) := by decide +kernel
theorem dX1_firstFault_65 : decode cX1_firstFault 65 = .ok (.getfield 15, 3) := by decide +kernel
theorem dX1_firstFault_68 : decode cX1_firstFault 68 = .ok (.ireturn, 1) := by decide +kernel
theorem dX1_isValley_0 : decode cX1_isValley 0 = .ok (.aload_n 0, 1) := by decide +kernel
theorem dX1_isValley_1 : decode cX1_isValley 1 = .ok (.invokevirtual 23, 3) := by decide +kernel
theorem dX1_isValley_4 : decode cX1_isValley 4 = .ok (.istore_n 1, 1) := by decide +kernel
theorem dX1_isValley_5 : decode cX1_isValley 5 = .ok (.iload_n 1, 1) := by decide +kernel
theorem dX1_isValley_6 : decode cX1_isValley 6 = .ok (.iconst (-1), 1) := by decide +kernel
theorem dX1_isValley_7 : decode cX1_isValley 7 = .ok (.if_icmp .eq 30, 3) := by decide +kernel
theorem dX1_isValley_10 : decode cX1_isValley 10 = .ok (.aload_n 0, 1) := by decide +kernel
theorem dX1_isValley_11 : decode cX1_isValley 11 = .ok (.getfield 15, 3) := by decide +kernel
theorem dX1_isValley_14 : decode cX1_isValley 14 = .ok (.iload_n 1, 1) := by decide +kernel
theorem dX1_isValley_15 : decode cX1_isValley 15 = .ok (.isub, 1) := by decide +kernel
theorem dX1_isValley_16 : decode cX1_isValley 16 = .ok (.iconst 1, 1) := by decide +kernel
theorem dX1_isValley_17 : decode cX1_isValley 17 = .ok (.isub, 1) := by decide +kernel
theorem dX1_isValley_18 : decode cX1_isValley 18 = .ok (.iconst 2, 1) := by decide +kernel
theorem dX1_isValley_19 : decode cX1_isValley 19 = .ok (.if_icmp .lt 18, 3) := by decide +kernel
theorem dX1_isValley_22 : decode cX1_isValley 22 = .ok (.aload_n 0, 1) := by decide +kernel
theorem dX1_isValley_23 : decode cX1_isValley 23 = .ok (.invokevirtual 35, 3) := by decide +kernel
theorem dX1_isValley_26 : decode cX1_isValley 26 = .ok (.aload_n 0, 1) := by decide +kernel
theorem dX1_isValley_27 : decode cX1_isValley 27 = .ok (.getfield 15, 3) := by decide +kernel
theorem dX1_isValley_30 : decode cX1_isValley 30 = .ok (.if_icmp .ne 7, 3) := by decide +kernel
theorem dX1_isValley_33 : decode cX1_isValley 33 = .ok (.iconst 1, 1) := by decide +kernel
theorem dX1_isValley_34 : decode cX1_isValley 34 = .ok (.goto 4, 3) := by decide +kernel
theorem dX1_isValley_37 : decode cX1_isValley 37 = .ok (.iconst 0, 1) := by decide +kernel
theorem dX1_isValley_38 : decode cX1_isValley 38 = .ok (.ireturn, 1) := by decide +kernel
theorem dX1_markPlace_0 : decode cX1_markPlace 0 = .ok (.iconst 0, 1) := by decide +kernel
theorem dX1_markPlace_1 : decode cX1_markPlace 1 = .ok (.istore_n 1, 1) := by decide +kernel
theorem dX1_markPlace_2 : decode cX1_markPlace 2 = .ok (.iload_n 1, 1) := by decide +kernel
theorem dX1_markPlace_3 : decode cX1_markPlace 3 = .ok (.aload_n 0, 1) := by decide +kernel
theorem dX1_markPlace_4 : decode cX1_markPlace 4 = .ok (.getfield 15, 3) := by decide +kernel
theorem dX1_markPlace_7 : decode cX1_markPlace 7 = .ok (.if_icmp .ge 22, 3) := by decide +kernel
theorem dX1_markPlace_10 : decode cX1_markPlace 10 = .ok (.aload_n 0, 1) := by decide +kernel
theorem dX1_markPlace_11 : decode cX1_markPlace 11 = .ok (.getfield 9, 3) := by decide +kernel
theorem dX1_markPlace_14 : decode cX1_markPlace 14 = .ok (.iload_n 1, 1) := by decide +kernel
theorem dX1_markPlace_15 : decode cX1_markPlace 15 = .ok (.iaload, 1) := by decide +kernel
theorem dX1_markPlace_16 : decode cX1_markPlace 16 = .ok (.bipush 59, 2) := by decide +kernel
theorem dX1_markPlace_18 : decode cX1_markPlace 18 = .ok (.if_icmp .ne 5, 3) := by decide +kernel
theorem dX1_markPlace_21 : decode cX1_markPlace 21 = .ok (.iload_n 1, 1) := by decide +kernel
theorem dX1_markPlace_22 : decode cX1_markPlace 22 = .ok (.ireturn, 1) := by decide +kernel
theorem dX1_markPlace_23 : decode cX1_markPlace 23 = .ok (.iinc 1 1, 3) := by decide +kernel
theorem dX1_markPlace_26 : decode cX1_markPlace 26 = .ok (.goto (-24), 3) := by decide +kernel
theorem dX1_markPlace_29 : decode cX1_markPlace 29 = .ok (.iconst (-1), 1) := by decide +kernel
theorem dX1_markPlace_30 : decode cX1_markPlace 30 = .ok (.ireturn, 1) := by decide +kernel
theorem dX1_fitsPeople_0 : decode cX1_fitsPeople 0 = .ok (.iload_n 1, 1) := by decide +kernel
theorem dX1_fitsPeople_1 : decode cX1_fitsPeople 1 = .ok (.iconst 4, 1) := by decide +kernel
theorem dX1_fitsPeople_2 : decode cX1_fitsPeople 2 = .ok (.irem, 1) := by decide +kernel
theorem dX1_fitsPeople_3 : decode cX1_fitsPeople 3 = .ok (.tableswitch 62 0 2 #[25, 45, 54], 25) := by decide +kernel
theorem dX1_fitsPeople_28 : decode cX1_fitsPeople 28 = .ok (.ldc 38, 2) := by decide +kernel
theorem dX1_fitsPeople_30 : decode cX1_fitsPeople 30 = .ok (.aload_n 0, 1) := by decide +kernel
theorem dX1_fitsPeople_31 : decode cX1_fitsPeople 31 = .ok (.iload_n 1, 1) := by decide +kernel
theorem dX1_fitsPeople_32 : decode cX1_fitsPeople 32 = .ok (.invokevirtual 19, 3) := by decide +kernel
theorem dX1_fitsPeople_35 : decode cX1_fitsPeople 35 = .ok (.i2c, 1) := by decide +kernel
theorem dX1_fitsPeople_36 : decode cX1_fitsPeople 36 = .ok (.invokevirtual 40, 3) := by decide +kernel
theorem dX1_fitsPeople_39 : decode cX1_fitsPeople 39 = .ok (.ifCond .lt 7, 3) := by decide +kernel
theorem dX1_fitsPeople_42 : decode cX1_fitsPeople 42 = .ok (.iconst 1, 1) := by decide +kernel
theorem dX1_fitsPeople_43 : decode cX1_fitsPeople 43 = .ok (.goto 4, 3) := by decide +kernel
theorem dX1_fitsPeople_46 : decode cX1_fitsPeople 46 = .ok (.iconst 0, 1) := by decide +kernel
theorem dX1_fitsPeople_47 : decode cX1_fitsPeople 47 = .ok (.ireturn, 1) := by decide +kernel
theorem dX1_fitsPeople_48 : decode cX1_fitsPeople 48 = .ok (.aload_n 0, 1) := by decide +kernel
theorem dX1_fitsPeople_49 : decode cX1_fitsPeople 49 = .ok (.iload_n 1, 1) := by decide +kernel
theorem dX1_fitsPeople_50 : decode cX1_fitsPeople 50 = .ok (.iconst 1, 1) := by decide +kernel
theorem dX1_fitsPeople_51 : decode cX1_fitsPeople 51 = .ok (.bipush 9, 2) := by decide +kernel
theorem dX1_fitsPeople_53 : decode cX1_fitsPeople 53 = .ok (.invokevirtual 45, 3) := by decide +kernel
theorem dX1_fitsPeople_56 : decode cX1_fitsPeople 56 = .ok (.ireturn, 1) := by decide +kernel
theorem dX1_fitsPeople_57 : decode cX1_fitsPeople 57 = .ok (.aload_n 0, 1) := by decide +kernel
theorem dX1_fitsPeople_58 : decode cX1_fitsPeople 58 = .ok (.iload_n 1, 1) := by decide +kernel
theorem dX1_fitsPeople_59 : decode cX1_fitsPeople 59 = .ok (.iconst 0, 1) := by decide +kernel
theorem dX1_fitsPeople_60 : decode cX1_fitsPeople 60 = .ok (.iconst 5, 1) := by decide +kernel
theorem dX1_fitsPeople_61 : decode cX1_fitsPeople 61 = .ok (.invokevirtual 45, 3) := by decide +kernel
theorem dX1_fitsPeople_64 : decode cX1_fitsPeople 64 = .ok (.ireturn, 1) := by decide +kernel
theorem dX1_fitsPeople_65 : decode cX1_fitsPeople 65 = .ok (.aload_n 0, 1) := by decide +kernel
theorem dX1_fitsPeople_66 : decode cX1_fitsPeople 66 = .ok (.aload_n 0, 1) := by decide +kernel
theorem dX1_fitsPeople_67 : decode cX1_fitsPeople 67 = .ok (.iload_n 1, 1) := by decide +kernel
theorem dX1_fitsPeople_68 : decode cX1_fitsPeople 68 = .ok (.invokevirtual 19, 3) := by decide +kernel
theorem dX1_fitsPeople_71 : decode cX1_fitsPeople 71 = .ok (.iload_n 1, 1) := by decide +kernel
theorem dX1_fitsPeople_72 : decode cX1_fitsPeople 72 = .ok (.iconst 4, 1) := by decide +kernel
theorem dX1_fitsPeople_73 : decode cX1_fitsPeople 73 = .ok (.idiv, 1) := by decide +kernel
theorem dX1_fitsPeople_74 : decode cX1_fitsPeople 74 = .ok (.iconst 1, 1) := by decide +kernel
theorem dX1_fitsPeople_75 : decode cX1_fitsPeople 75 = .ok (.iadd, 1) := by decide +kernel
theorem dX1_fitsPeople_76 : decode cX1_fitsPeople 76 = .ok (.invokevirtual 49, 3) := by decide +kernel
theorem dX1_fitsPeople_79 : decode cX1_fitsPeople 79 = .ok (.ireturn, 1) := by decide +kernel
theorem dX1_fitsBehindPeople_0 : decode cX1_fitsBehindPeople 0 = .ok (.iload_n 1, 1) := by decide +kernel
theorem dX1_fitsBehindPeople_1 : decode cX1_fitsBehindPeople 1 = .ok (.bipush 44, 2) := by decide +kernel
theorem dX1_fitsBehindPeople_3 : decode cX1_fitsBehindPeople 3 = .ok (.if_icmp .ne 8, 3) := by decide +kernel
theorem dX1_fitsBehindPeople_6 : decode cX1_fitsBehindPeople 6 = .ok (.iload_n 2, 1) := by decide +kernel
theorem dX1_fitsBehindPeople_7 : decode cX1_fitsBehindPeople 7 = .ok (.iconst 4, 1) := by decide +kernel
theorem dX1_fitsBehindPeople_8 : decode cX1_fitsBehindPeople 8 = .ok (.if_icmp .lt 14, 3) := by decide +kernel
theorem dX1_fitsBehindPeople_11 : decode cX1_fitsBehindPeople 11 = .ok (.iload_n 1, 1) := by decide +kernel
theorem dX1_fitsBehindPeople_12 : decode cX1_fitsBehindPeople 12 = .ok (.bipush 59, 2) := by decide +kernel
theorem dX1_fitsBehindPeople_14 : decode cX1_fitsBehindPeople 14 = .ok (.if_icmp .ne 12, 3) := by decide +kernel
theorem dX1_fitsBehindPeople_17 : decode cX1_fitsBehindPeople 17 = .ok (.iload_n 2, 1) := by decide +kernel
theorem dX1_fitsBehindPeople_18 : decode cX1_fitsBehindPeople 18 = .ok (.iconst 2, 1) := by decide +kernel
theorem dX1_fitsBehindPeople_19 : decode cX1_fitsBehindPeople 19 = .ok (.if_icmp .lt 7, 3) := by decide +kernel
theorem dX1_fitsBehindPeople_22 : decode cX1_fitsBehindPeople 22 = .ok (.iconst 1, 1) := by decide +kernel
theorem dX1_fitsBehindPeople_23 : decode cX1_fitsBehindPeople 23 = .ok (.goto 4, 3) := by decide +kernel
theorem dX1_fitsBehindPeople_26 : decode cX1_fitsBehindPeople 26 = .ok (.iconst 0, 1) := by decide +kernel
theorem dX1_fitsBehindPeople_27 : decode cX1_fitsBehindPeople 27 = .ok (.ireturn, 1) := by decide +kernel
theorem dX1_fitsPails_0 : decode cX1_fitsPails 0 = .ok (.iload_n 1, 1) := by decide +kernel
theorem dX1_fitsPails_1 : decode cX1_fitsPails 1 = .ok (.iload_n 2, 1) := by decide +kernel
theorem dX1_fitsPails_2 : decode cX1_fitsPails 2 = .ok (.isub, 1) := by decide +kernel
theorem dX1_fitsPails_3 : decode cX1_fitsPails 3 = .ok (.bipush 6, 2) := by decide +kernel
theorem dX1_fitsPails_5 : decode cX1_fitsPails 5 = .ok (.if_icmp .gt 18, 3) := by decide +kernel
theorem dX1_fitsPails_8 : decode cX1_fitsPails 8 = .ok (.aload_n 0, 1) := by decide +kernel
theorem dX1_fitsPails_9 : decode cX1_fitsPails 9 = .ok (.iload_n 1, 1) := by decide +kernel
theorem dX1_fitsPails_10 : decode cX1_fitsPails 10 = .ok (.iconst 1, 1) := by decide +kernel
theorem dX1_fitsPails_11 : decode cX1_fitsPails 11 = .ok (.bipush 9, 2) := by decide +kernel
theorem dX1_fitsPails_13 : decode cX1_fitsPails 13 = .ok (.invokevirtual 45, 3) := by decide +kernel
theorem dX1_fitsPails_16 : decode cX1_fitsPails 16 = .ok (.ifCond .eq 7, 3) := by decide +kernel
theorem dX1_fitsPails_19 : decode cX1_fitsPails 19 = .ok (.iconst 1, 1) := by decide +kernel
theorem dX1_fitsPails_20 : decode cX1_fitsPails 20 = .ok (.goto 4, 3) := by decide +kernel
theorem dX1_fitsPails_23 : decode cX1_fitsPails 23 = .ok (.iconst 0, 1) := by decide +kernel
theorem dX1_fitsPails_24 : decode cX1_fitsPails 24 = .ok (.ireturn, 1) := by decide +kernel
theorem dX1_isDigit_0 : decode cX1_isDigit 0 = .ok (.aload_n 0, 1) := by decide +kernel
theorem dX1_isDigit_1 : decode cX1_isDigit 1 = .ok (.iload_n 1, 1) := by decide +kernel
theorem dX1_isDigit_2 : decode cX1_isDigit 2 = .ok (.invokevirtual 52, 3) := by decide +kernel
theorem dX1_isDigit_5 : decode cX1_isDigit 5 = .ok (.istore 4, 2) := by decide +kernel
theorem dX1_isDigit_7 : decode cX1_isDigit 7 = .ok (.iload 4, 2) := by decide +kernel
theorem dX1_isDigit_9 : decode cX1_isDigit 9 = .ok (.iload_n 2, 1) := by decide +kernel
theorem dX1_isDigit_10 : decode cX1_isDigit 10 = .ok (.if_icmp .lt 13, 3) := by decide +kernel
theorem dX1_isDigit_13 : decode cX1_isDigit 13 = .ok (.iload 4, 2) := by decide +kernel
theorem dX1_isDigit_15 : decode cX1_isDigit 15 = .ok (.iload_n 3, 1) := by decide +kernel
theorem dX1_isDigit_16 : decode cX1_isDigit 16 = .ok (.if_icmp .gt 7, 3) := by decide +kernel
theorem dX1_isDigit_19 : decode cX1_isDigit 19 = .ok (.iconst 1, 1) := by decide +kernel
theorem dX1_isDigit_20 : decode cX1_isDigit 20 = .ok (.goto 4, 3) := by decide +kernel
theorem dX1_isDigit_23 : decode cX1_isDigit 23 = .ok (.iconst 0, 1) := by decide +kernel
theorem dX1_isDigit_24 : decode cX1_isDigit 24 = .ok (.ireturn, 1) := by decide +kernel
