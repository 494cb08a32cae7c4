theorem dX4_isOf_0 : decode cX4_isOf 0 = .ok (.iload_n 1, 1) := by decide +kernel
theorem dX4_isOf_1 : decode cX4_isOf 1 = .ok (.ifCond .eq 18, 3) := by decide +kernel
theorem dX4_isOf_4 : decode cX4_isOf 4 = .ok (.iload_n 0, 1) := by decide +kernel
theorem dX4_isOf_5 : decode cX4_isOf 5 = .ok (.iload_n 1, 1) := by decide +kernel
theorem dX4_isOf_6 : decode cX4_isOf 6 = .ok (.if_icmp .eq 13, 3) := by decide +kernel
theorem dX4_isOf_9 : decode cX4_isOf 9 = .ok (.iload_n 0, 1) := by decide +kernel
theorem dX4_isOf_10 : decode cX4_isOf 10 = .ok (.iconst 4, 1) := by decide +kernel
theorem dX4_isOf_11 : decode cX4_isOf 11 = .ok (.if_icmp .ne 12, 3) := by decide +kernel
theorem dX4_isOf_14 : decode cX4_isOf 14 = .ok (.iload_n 1, 1) := by decide +kernel
theorem dX4_isOf_15 : decode cX4_isOf 15 = .ok (.iconst 1, 1) := by decide +kernel
theorem dX4_isOf_16 : decode cX4_isOf 16 = .ok (.if_icmp .ne 7, 3) := by decide +kernel
theorem dX4_isOf_19 : decode cX4_isOf 19 = .ok (.iconst 1, 1) := by decide +kernel
theorem dX4_isOf_20 : decode cX4_isOf 20 = .ok (.goto 4, 3) := by decide +kernel
theorem dX4_isOf_23 : decode cX4_isOf 23 = .ok (.iconst 0, 1) := by decide +kernel
theorem dX4_isOf_24 : decode cX4_isOf 24 = .ok (.ireturn, 1) := by decide +kernel
theorem dX4_growthFromNone_0 : decode cX4_growthFromNone 0 = .ok (.iload_n 2, 1) := by decide +kernel
theorem dX4_growthFromNone_1 : decode cX4_growthFromNone 1 = .ok (.invokestatic 9, 3) := by decide +kernel
theorem dX4_growthFromNone_4 : decode cX4_growthFromNone 4 = .ok (.ifCond .ne 5, 3) := by decide +kernel
theorem dX4_growthFromNone_7 : decode cX4_growthFromNone 7 = .ok (.iconst 0, 1) := by decide +kernel
theorem dX4_growthFromNone_8 : decode cX4_growthFromNone 8 = .ok (.ireturn, 1) := by decide +kernel
theorem dX4_growthFromNone_9 : decode cX4_growthFromNone 9 = .ok (.iload_n 0, 1) := by decide +kernel
theorem dX4_growthFromNone_10 : decode cX4_growthFromNone 10 = .ok (.iconst 3, 1) := by decide +kernel
theorem dX4_growthFromNone_11 : decode cX4_growthFromNone 11 = .ok (.if_icmp .ne 13, 3) := by decide +kernel
theorem dX4_growthFromNone_14 : decode cX4_growthFromNone 14 = .ok (.iload_n 2, 1) := by decide +kernel
theorem dX4_growthFromNone_15 : decode cX4_growthFromNone 15 = .ok (.iconst 1, 1) := by decide +kernel
theorem dX4_growthFromNone_16 : decode cX4_growthFromNone 16 = .ok (.if_icmp .ne 8, 3) := by decide +kernel
theorem dX4_growthFromNone_19 : decode cX4_growthFromNone 19 = .ok (.bipush 12, 2) := by decide +kernel
theorem dX4_growthFromNone_21 : decode cX4_growthFromNone 21 = .ok (.goto 8, 3) := by decide +kernel
theorem dX4_growthFromNone_24 : decode cX4_growthFromNone 24 = .ok (.getstatic 13, 3) := by decide +kernel
theorem dX4_growthFromNone_27 : decode cX4_growthFromNone 27 = .ok (.iload_n 2, 1) := by decide +kernel
theorem dX4_growthFromNone_28 : decode cX4_growthFromNone 28 = .ok (.iaload, 1) := by decide +kernel
theorem dX4_growthFromNone_29 : decode cX4_growthFromNone 29 = .ok (.istore_n 3, 1) := by decide +kernel
theorem dX4_growthFromNone_30 : decode cX4_growthFromNone 30 = .ok (.iload_n 3, 1) := by decide +kernel
theorem dX4_growthFromNone_31 : decode cX4_growthFromNone 31 = .ok (.iload_n 1, 1) := by decide +kernel
theorem dX4_growthFromNone_32 : decode cX4_growthFromNone 32 = .ok (.imul, 1) := by decide +kernel
theorem dX4_growthFromNone_33 : decode cX4_growthFromNone 33 = .ok (.iconst 5, 1) := by decide +kernel
theorem dX4_growthFromNone_34 : decode cX4_growthFromNone 34 = .ok (.idiv, 1) := by decide +kernel
theorem dX4_growthFromNone_35 : decode cX4_growthFromNone 35 = .ok (.istore 4, 2) := by decide +kernel
theorem dX4_growthFromNone_37 : decode cX4_growthFromNone 37 = .ok (.iload_n 0, 1) := by decide +kernel
theorem dX4_growthFromNone_38 : decode cX4_growthFromNone 38 = .ok (.iconst 1, 1) := by decide +kernel
theorem dX4_growthFromNone_39 : decode cX4_growthFromNone 39 = .ok (.invokestatic 17, 3) := by decide +kernel
theorem dX4_growthFromNone_42 : decode cX4_growthFromNone 42 = .ok (.ifCond .eq 10, 3) := by decide +kernel
theorem dX4_growthFromNone_45 : decode cX4_growthFromNone 45 = .ok (.iload 4, 2) := by decide +kernel
theorem dX4_growthFromNone_47 : decode cX4_growthFromNone 47 = .ok (.iconst 2, 1) := by decide +kernel
theorem dX4_growthFromNone_48 : decode cX4_growthFromNone 48 = .ok (.idiv, 1) := by decide +kernel
theorem dX4_growthFromNone_49 : decode cX4_growthFromNone 49 = .ok (.goto 5, 3) := by decide +kernel
theorem dX4_growthFromNone_52 : decode cX4_growthFromNone 52 = .ok (.iload 4, 2) := by decide +kernel
theorem dX4_growthFromNone_54 : decode cX4_growthFromNone 54 = .ok (.ireturn, 1) := by decide +kernel
theorem dX4_overnight_0 : decode cX4_overnight 0 = .ok (.iload_n 0, 1) := by decide +kernel
theorem dX4_overnight_1 : decode cX4_overnight 1 = .ok (.iconst 2, 1) := by decide +kernel
theorem dX4_overnight_2 : decode cX4_overnight 2 = .ok (.if_icmp .ne 5, 3) := by decide +kernel
theorem dX4_overnight_5 : decode cX4_overnight 5 = .ok (.iload_n 1, 1) := by decide +kernel
theorem dX4_overnight_6 : decode cX4_overnight 6 = .ok (.ireturn, 1) := by decide +kernel
theorem dX4_overnight_7 : decode cX4_overnight 7 = .ok (.iload_n 0, 1) := by decide +kernel
theorem dX4_overnight_8 : decode cX4_overnight 8 = .ok (.iconst 4, 1) := by decide +kernel
theorem dX4_overnight_9 : decode cX4_overnight 9 = .ok (.if_icmp .ne 15, 3) := by decide +kernel
theorem dX4_overnight_12 : decode cX4_overnight 12 = .ok (.iload_n 1, 1) := by decide +kernel
theorem dX4_overnight_13 : decode cX4_overnight 13 = .ok (.ifCond .le 11, 3) := by decide +kernel
theorem dX4_overnight_16 : decode cX4_overnight 16 = .ok (.iload_n 1, 1) := by decide +kernel
theorem dX4_overnight_17 : decode cX4_overnight 17 = .ok (.iconst 2, 1) := by decide +kernel
theorem dX4_overnight_18 : decode cX4_overnight 18 = .ok (.idiv, 1) := by decide +kernel
theorem dX4_overnight_19 : decode cX4_overnight 19 = .ok (.iconst 1, 1) := by decide +kernel
theorem dX4_overnight_20 : decode cX4_overnight 20 = .ok (.iadd, 1) := by decide +kernel
theorem dX4_overnight_21 : decode cX4_overnight 21 = .ok (.goto 6, 3) := by decide +kernel
theorem dX4_overnight_24 : decode cX4_overnight 24 = .ok (.iload_n 1, 1) := by decide +kernel
theorem dX4_overnight_25 : decode cX4_overnight 25 = .ok (.iconst 2, 1) := by decide +kernel
theorem dX4_overnight_26 : decode cX4_overnight 26 = .ok (.idiv, 1) := by decide +kernel
theorem dX4_overnight_27 : decode cX4_overnight 27 = .ok (.ireturn, 1) := by decide +kernel
theorem dX4_bestTry_0 : decode cX4_bestTry 0 = .ok (.iconst (-1), 1) := by decide +kernel
theorem dX4_bestTry_1 : decode cX4_bestTry 1 = .ok (.istore_n 2, 1) := by decide +kernel
theorem dX4_bestTry_2 : decode cX4_bestTry 2 = .ok (.bipush 10, 2) := by decide +kernel
theorem dX4_bestTry_4 : decode cX4_bestTry 4 = .ok (.istore_n 3, 1) := by decide +kernel
theorem dX4_bestTry_5 : decode cX4_bestTry 5 = .ok (.iconst 0, 1) := by decide +kernel
theorem dX4_bestTry_6 : decode cX4_bestTry 6 = .ok (.istore 4, 2) := by decide +kernel
theorem dX4_bestTry_8 : decode cX4_bestTry 8 = .ok (.iload 4, 2) := by decide +kernel
theorem dX4_bestTry_10 : decode cX4_bestTry 10 = .ok (.iconst 3, 1) := by decide +kernel
theorem dX4_bestTry_11 : decode cX4_bestTry 11 = .ok (.if_icmp .ge 34, 3) := by decide +kernel
theorem dX4_bestTry_14 : decode cX4_bestTry 14 = .ok (.iload_n 1, 1) := by decide +kernel
theorem dX4_bestTry_15 : decode cX4_bestTry 15 = .ok (.ifCond .eq 30, 3) := by decide +kernel
theorem dX4_bestTry_18 : decode cX4_bestTry 18 = .ok (.iload_n 0, 1) := by decide +kernel
theorem dX4_bestTry_19 : decode cX4_bestTry 19 = .ok (.iload_n 1, 1) := by decide +kernel
theorem dX4_bestTry_20 : decode cX4_bestTry 20 = .ok (.iload 4, 2) := by decide +kernel
theorem dX4_bestTry_22 : decode cX4_bestTry 22 = .ok (.invokestatic 23, 3) := by decide +kernel
theorem dX4_bestTry_25 : decode cX4_bestTry 25 = .ok (.istore 5, 2) := by decide +kernel
theorem dX4_bestTry_27 : decode cX4_bestTry 27 = .ok (.iload 5, 2) := by decide +kernel
theorem dX4_bestTry_29 : decode cX4_bestTry 29 = .ok (.iload_n 3, 1) := by decide +kernel
theorem dX4_bestTry_30 : decode cX4_bestTry 30 = .ok (.if_icmp .ge 9, 3) := by decide +kernel
theorem dX4_bestTry_33 : decode cX4_bestTry 33 = .ok (.iload 5, 2) := by decide +kernel
theorem dX4_bestTry_35 : decode cX4_bestTry 35 = .ok (.istore_n 3, 1) := by decide +kernel
theorem dX4_bestTry_36 : decode cX4_bestTry 36 = .ok (.iload 4, 2) := by decide +kernel
theorem dX4_bestTry_38 : decode cX4_bestTry 38 = .ok (.istore_n 2, 1) := by decide +kernel
theorem dX4_bestTry_39 : decode cX4_bestTry 39 = .ok (.iinc 4 1, 3) := by decide +kernel
theorem dX4_bestTry_42 : decode cX4_bestTry 42 = .ok (.goto (-34), 3) := by decide +kernel
theorem dX4_bestTry_45 : decode cX4_bestTry 45 = .ok (.iload_n 2, 1) := by decide +kernel
theorem dX4_bestTry_46 : decode cX4_bestTry 46 = .ok (.ireturn, 1) := by decide +kernel
theorem dX4_mostLeft_0 : decode cX4_mostLeft 0 = .ok (.iconst 0, 1) := by decide +kernel
theorem dX4_mostLeft_1 : decode cX4_mostLeft 1 = .ok (.istore_n 3, 1) := by decide +kernel
theorem dX4_mostLeft_2 : decode cX4_mostLeft 2 = .ok (.iconst 1, 1) := by decide +kernel
theorem dX4_mostLeft_3 : decode cX4_mostLeft 3 = .ok (.istore 4, 2) := by decide +kernel
theorem dX4_mostLeft_5 : decode cX4_mostLeft 5 = .ok (.iload 4, 2) := by decide +kernel
theorem dX4_mostLeft_7 : decode cX4_mostLeft 7 = .ok (.bipush 9, 2) := by decide +kernel
theorem dX4_mostLeft_9 : decode cX4_mostLeft 9 = .ok (.if_icmp .gt 40, 3) := by decide +kernel
theorem dX4_mostLeft_12 : decode cX4_mostLeft 12 = .ok (.iload_n 1, 1) := by decide +kernel
theorem dX4_mostLeft_13 : decode cX4_mostLeft 13 = .ok (.iload 4, 2) := by decide +kernel
theorem dX4_mostLeft_15 : decode cX4_mostLeft 15 = .ok (.invokestatic 27, 3) := by decide +kernel
theorem dX4_mostLeft_18 : decode cX4_mostLeft 18 = .ok (.ifCond .eq 25, 3) := by decide +kernel
theorem dX4_mostLeft_21 : decode cX4_mostLeft 21 = .ok (.iload_n 0, 1) := by decide +kernel
theorem dX4_mostLeft_22 : decode cX4_mostLeft 22 = .ok (.iload 4, 2) := by decide +kernel
theorem dX4_mostLeft_24 : decode cX4_mostLeft 24 = .ok (.iload_n 2, 1) := by decide +kernel
theorem dX4_mostLeft_25 : decode cX4_mostLeft 25 = .ok (.invokestatic 30, 3) := by decide +kernel
theorem dX4_mostLeft_28 : decode cX4_mostLeft 28 = .ok (.istore 5, 2) := by decide +kernel
theorem dX4_mostLeft_30 : decode cX4_mostLeft 30 = .ok (.iload_n 3, 1) := by decide +kernel
theorem dX4_mostLeft_31 : decode cX4_mostLeft 31 = .ok (.iload_n 0, 1) := by decide +kernel
theorem dX4_mostLeft_32 : decode cX4_mostLeft 32 = .ok (.iload_n 1, 1) := by decide +kernel
theorem dX4_mostLeft_33 : decode cX4_mostLeft 33 = .ok (.iload_n 2, 1) := by decide +kernel
theorem dX4_mostLeft_34 : decode cX4_mostLeft 34 = .ok (.iload 5, 2) := by decide +kernel
theorem dX4_mostLeft_36 : decode cX4_mostLeft 36 = .ok (.invokestatic 33, 3) := by decide +kernel
theorem dX4_mostLeft_39 : decode cX4_mostLeft 39 = .ok (.invokestatic 37, 3) := by decide +kernel
theorem dX4_mostLeft_42 : decode cX4_mostLeft 42 = .ok (.istore_n 3, 1) := by decide +kernel
theorem dX4_mostLeft_43 : decode cX4_mostLeft 43 = .ok (.iinc 4 1, 3) := by decide +kernel
theorem dX4_mostLeft_46 : decode cX4_mostLeft 46 = .ok (.goto (-41), 3) := by decide +kernel
theorem dX4_mostLeft_49 : decode cX4_mostLeft 49 = .ok (.iload_n 3, 1) := by decide +kernel
theorem dX4_mostLeft_50 : decode cX4_mostLeft 50 = .ok (.ireturn, 1) := by decide +kernel
theorem dX4_likeOnes_0 : decode cX4_likeOnes 0 = .ok (.iconst 0, 1) := by decide +kernel
theorem dX4_likeOnes_1 : decode cX4_likeOnes 1 = .ok (.istore 4, 2) := by decide +kernel
theorem dX4_likeOnes_3 : decode cX4_likeOnes 3 = .ok (.iconst 1, 1) := by decide +kernel
theorem dX4_likeOnes_4 : decode cX4_likeOnes 4 = .ok (.istore 5, 2) := by decide +kernel
theorem dX4_likeOnes_6 : decode cX4_likeOnes 6 = .ok (.iload 5, 2) := by decide +kernel
theorem dX4_likeOnes_8 : decode cX4_likeOnes 8 = .ok (.bipush 9, 2) := by decide +kernel
theorem dX4_likeOnes_10 : decode cX4_likeOnes 10 = .ok (.if_icmp .gt 32, 3) := by decide +kernel
theorem dX4_likeOnes_13 : decode cX4_likeOnes 13 = .ok (.iload_n 1, 1) := by decide +kernel
theorem dX4_likeOnes_14 : decode cX4_likeOnes 14 = .ok (.iload 5, 2) := by decide +kernel
theorem dX4_likeOnes_16 : decode cX4_likeOnes 16 = .ok (.invokestatic 27, 3) := by decide +kernel
theorem dX4_likeOnes_19 : decode cX4_likeOnes 19 = .ok (.ifCond .eq 17, 3) := by decide +kernel
theorem dX4_likeOnes_22 : decode cX4_likeOnes 22 = .ok (.iload_n 0, 1) := by decide +kernel
theorem dX4_likeOnes_23 : decode cX4_likeOnes 23 = .ok (.iload 5, 2) := by decide +kernel
theorem dX4_likeOnes_25 : decode cX4_likeOnes 25 = .ok (.iload_n 2, 1) := by decide +kernel
theorem dX4_likeOnes_26 : decode cX4_likeOnes 26 = .ok (.invokestatic 30, 3) := by decide +kernel
theorem dX4_likeOnes_29 : decode cX4_likeOnes 29 = .ok (.iload_n 3, 1) := by decide +kernel
theorem dX4_likeOnes_30 : decode cX4_likeOnes 30 = .ok (.if_icmp .ne 6, 3) := by decide +kernel
theorem dX4_likeOnes_33 : decode cX4_likeOnes 33 = .ok (.iinc 4 1, 3) := by decide +kernel
theorem dX4_likeOnes_36 : decode cX4_likeOnes 36 = .ok (.iinc 5 1, 3) := by decide +kernel
theorem dX4_likeOnes_39 : decode cX4_likeOnes 39 = .ok (.goto (-33), 3) := by decide +kernel
theorem dX4_likeOnes_42 : decode cX4_likeOnes 42 = .ok (.iload 4, 2) := by decide +kernel
theorem dX4_likeOnes_44 : decode cX4_likeOnes 44 = .ok (.ireturn, 1) := by decide +kernel
theorem dX4_hasPride_0 : decode cX4_hasPride 0 = .ok (.iload_n 0, 1) := by decide +kernel
theorem dX4_hasPride_1 : decode cX4_hasPride 1 = .ok (.iload_n 1, 1) := by decide +kernel
theorem dX4_hasPride_2 : decode cX4_hasPride 2 = .ok (.iconst 1, 1) := by decide +kernel
theorem dX4_hasPride_3 : decode cX4_hasPride 3 = .ok (.isub, 1) := by decide +kernel
theorem dX4_hasPride_4 : decode cX4_hasPride 4 = .ok (.ishr, 1) := by decide +kernel
theorem dX4_hasPride_5 : decode cX4_hasPride 5 = .ok (.iconst 1, 1) := by decide +kernel
theorem dX4_hasPride_6 : decode cX4_hasPride 6 = .ok (.iand, 1) := by decide +kernel
theorem dX4_hasPride_7 : decode cX4_hasPride 7 = .ok (.ifCond .eq 7, 3) := by decide +kernel
theorem dX4_hasPride_10 : decode cX4_hasPride 10 = .ok (.iconst 1, 1) := by decide +kernel
theorem dX4_hasPride_11 : decode cX4_hasPride 11 = .ok (.goto 4, 3) := by decide +kernel
theorem dX4_hasPride_14 : decode cX4_hasPride 14 = .ok (.iconst 0, 1) := by decide +kernel
theorem dX4_hasPride_15 : decode cX4_hasPride 15 = .ok (.ireturn, 1) := by decide +kernel
