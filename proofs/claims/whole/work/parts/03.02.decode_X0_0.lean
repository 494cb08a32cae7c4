theorem dX0_init_0 : decode cX0_init 0 = .ok (.aload_n 0, 1) := by decide +kernel
theorem dX0_init_1 : decode cX0_init 1 = .ok (.invokespecial 3, 3) := by decide +kernel
theorem dX0_init_4 : decode cX0_init 4 = .ok (.aload_n 0, 1) := by decide +kernel
theorem dX0_init_5 : decode cX0_init 5 = .ok (.new 9, 3) := by decide +kernel
theorem dX0_init_8 : decode cX0_init 8 = .ok (.dup, 1) := by decide +kernel
theorem dX0_init_9 : decode cX0_init 9 = .ok (.invokespecial 11, 3) := by decide +kernel
theorem dX0_init_12 : decode cX0_init 12 = .ok (.putfield 12, 3) := by decide +kernel
theorem dX0_init_15 : decode cX0_init 15 = .ok (.aload_n 0, 1) := by decide +kernel
theorem dX0_init_16 : decode cX0_init 16 = .ok (.iconst 3, 1) := by decide +kernel
theorem dX0_init_17 : decode cX0_init 17 = .ok (.newarray .int, 2) := by decide +kernel
theorem dX0_init_19 : decode cX0_init 19 = .ok (.putfield 18, 3) := by decide +kernel
theorem dX0_init_22 : decode cX0_init 22 = .ok (.aload_n 0, 1) := by decide +kernel
theorem dX0_init_23 : decode cX0_init 23 = .ok (.iconst 3, 1) := by decide +kernel
theorem dX0_init_24 : decode cX0_init 24 = .ok (.newarray .int, 2) := by decide +kernel
theorem dX0_init_26 : decode cX0_init 26 = .ok (.putfield 22, 3) := by decide +kernel
theorem dX0_init_29 : decode cX0_init 29 = .ok (.aload_n 0, 1) := by decide +kernel
theorem dX0_init_30 : decode cX0_init 30 = .ok (.iconst 3, 1) := by decide +kernel
theorem dX0_init_31 : decode cX0_init 31 = .ok (.iconst 4, 1) := by decide +kernel
theorem dX0_init_32 : decode cX0_init 32 = .ok (.multianewarray 25 2, 4) := by decide +kernel
theorem dX0_init_36 : decode cX0_init 36 = .ok (.putfield 27, 3) := by decide +kernel
theorem dX0_init_39 : decode cX0_init 39 = .ok (.return_, 1) := by decide +kernel
theorem dX0_findSeat_0 : decode cX0_findSeat 0 = .ok (.iconst 0, 1) := by decide +kernel
theorem dX0_findSeat_1 : decode cX0_findSeat 1 = .ok (.istore 4, 2) := by decide +kernel
theorem dX0_findSeat_3 : decode cX0_findSeat 3 = .ok (.aload_n 0, 1) := by decide +kernel
theorem dX0_findSeat_4 : decode cX0_findSeat 4 = .ok (.iconst (-1), 1) := by decide +kernel
theorem dX0_findSeat_5 : decode cX0_findSeat 5 = .ok (.putfield 30, 3) := by decide +kernel
theorem dX0_findSeat_8 : decode cX0_findSeat 8 = .ok (.iconst 0, 1) := by decide +kernel
theorem dX0_findSeat_9 : decode cX0_findSeat 9 = .ok (.istore 5, 2) := by decide +kernel
theorem dX0_findSeat_11 : decode cX0_findSeat 11 = .ok (.iload 5, 2) := by decide +kernel
theorem dX0_findSeat_13 : decode cX0_findSeat 13 = .ok (.bipush 6, 2) := by decide +kernel
theorem dX0_findSeat_15 : decode cX0_findSeat 15 = .ok (.if_icmp .ge 68, 3) := by decide +kernel
theorem dX0_findSeat_18 : decode cX0_findSeat 18 = .ok (.aload_n 1, 1) := by decide +kernel
theorem dX0_findSeat_19 : decode cX0_findSeat 19 = .ok (.iload_n 3, 1) := by decide +kernel
theorem dX0_findSeat_20 : decode cX0_findSeat 20 = .ok (.invokevirtual 34, 3) := by decide +kernel
theorem dX0_findSeat_23 : decode cX0_findSeat 23 = .ok (.ifCond .eq 60, 3) := by decide +kernel
theorem dX0_findSeat_26 : decode cX0_findSeat 26 = .ok (.aload_n 0, 1) := by decide +kernel
theorem dX0_findSeat_27 : decode cX0_findSeat 27 = .ok (.getfield 12, 3) := by decide +kernel
theorem dX0_findSeat_30 : decode cX0_findSeat 30 = .ok (.aload_n 2, 1) := by decide +kernel
theorem dX0_findSeat_31 : decode cX0_findSeat 31 = .ok (.invokevirtual 40, 3) := by decide +kernel
theorem dX0_findSeat_34 : decode cX0_findSeat 34 = .ok (.aload_n 0, 1) := by decide +kernel
theorem dX0_findSeat_35 : decode cX0_findSeat 35 = .ok (.getfield 12, 3) := by decide +kernel
theorem dX0_findSeat_38 : decode cX0_findSeat 38 = .ok (.getfield 44, 3) := by decide +kernel
theorem dX0_findSeat_41 : decode cX0_findSeat 41 = .ok (.iload_n 3, 1) := by decide +kernel
theorem dX0_findSeat_42 : decode cX0_findSeat 42 = .ok (.iload 5, 2) := by decide +kernel
theorem dX0_findSeat_44 : decode cX0_findSeat 44 = .ok (.iastore, 1) := by decide +kernel
theorem dX0_findSeat_45 : decode cX0_findSeat 45 = .ok (.aload_n 1, 1) := by decide +kernel
theorem dX0_findSeat_46 : decode cX0_findSeat 46 = .ok (.aload_n 0, 1) := by decide +kernel
theorem dX0_findSeat_47 : decode cX0_findSeat 47 = .ok (.getfield 12, 3) := by decide +kernel
theorem dX0_findSeat_50 : decode cX0_findSeat 50 = .ok (.invokevirtual 47, 3) := by decide +kernel
theorem dX0_findSeat_53 : decode cX0_findSeat 53 = .ok (.invokestatic 51, 3) := by decide +kernel
theorem dX0_findSeat_56 : decode cX0_findSeat 56 = .ok (.istore 6, 2) := by decide +kernel
theorem dX0_findSeat_58 : decode cX0_findSeat 58 = .ok (.iload 6, 2) := by decide +kernel
theorem dX0_findSeat_60 : decode cX0_findSeat 60 = .ok (.aload_n 0, 1) := by decide +kernel
theorem dX0_findSeat_61 : decode cX0_findSeat 61 = .ok (.getfield 30, 3) := by decide +kernel
theorem dX0_findSeat_64 : decode cX0_findSeat 64 = .ok (.if_icmp .le 13, 3) := by decide +kernel
theorem dX0_findSeat_67 : decode cX0_findSeat 67 = .ok (.aload_n 0, 1) := by decide +kernel
theorem dX0_findSeat_68 : decode cX0_findSeat 68 = .ok (.iload 6, 2) := by decide +kernel
theorem dX0_findSeat_70 : decode cX0_findSeat 70 = .ok (.putfield 30, 3) := by decide +kernel
theorem dX0_findSeat_73 : decode cX0_findSeat 73 = .ok (.iload 5, 2) := by decide +kernel
theorem dX0_findSeat_75 : decode cX0_findSeat 75 = .ok (.istore 4, 2) := by decide +kernel
theorem dX0_findSeat_77 : decode cX0_findSeat 77 = .ok (.iinc 5 1, 3) := by decide +kernel
theorem dX0_findSeat_80 : decode cX0_findSeat 80 = .ok (.goto (-69), 3) := by decide +kernel
theorem dX0_findSeat_83 : decode cX0_findSeat 83 = .ok (.iload 4, 2) := by decide +kernel
theorem dX0_findSeat_85 : decode cX0_findSeat 85 = .ok (.ireturn, 1) := by decide +kernel
theorem dX0_trySlight_0 : decode cX0_trySlight 0 = .ok (.aload_n 0, 1) := by decide +kernel
theorem dX0_trySlight_1 : decode cX0_trySlight 1 = .ok (.getfield 12, 3) := by decide +kernel
theorem dX0_trySlight_4 : decode cX0_trySlight 4 = .ok (.aload_n 2, 1) := by decide +kernel
theorem dX0_trySlight_5 : decode cX0_trySlight 5 = .ok (.invokevirtual 40, 3) := by decide +kernel
theorem dX0_trySlight_8 : decode cX0_trySlight 8 = .ok (.aload_n 1, 1) := by decide +kernel
theorem dX0_trySlight_9 : decode cX0_trySlight 9 = .ok (.aload_n 0, 1) := by decide +kernel
theorem dX0_trySlight_10 : decode cX0_trySlight 10 = .ok (.getfield 12, 3) := by decide +kernel
theorem dX0_trySlight_13 : decode cX0_trySlight 13 = .ok (.iload_n 3, 1) := by decide +kernel
theorem dX0_trySlight_14 : decode cX0_trySlight 14 = .ok (.invokevirtual 57, 3) := by decide +kernel
theorem dX0_trySlight_17 : decode cX0_trySlight 17 = .ok (.return_, 1) := by decide +kernel
theorem dX0_slightsThatSet_0 : decode cX0_slightsThatSet 0 = .ok (.iconst 0, 1) := by decide +kernel
theorem dX0_slightsThatSet_1 : decode cX0_slightsThatSet 1 = .ok (.istore 4, 2) := by decide +kernel
theorem dX0_slightsThatSet_3 : decode cX0_slightsThatSet 3 = .ok (.iconst 0, 1) := by decide +kernel
theorem dX0_slightsThatSet_4 : decode cX0_slightsThatSet 4 = .ok (.istore 5, 2) := by decide +kernel
theorem dX0_slightsThatSet_6 : decode cX0_slightsThatSet 6 = .ok (.iload 5, 2) := by decide +kernel
theorem dX0_slightsThatSet_8 : decode cX0_slightsThatSet 8 = .ok (.aload_n 1, 1) := by decide +kernel
theorem dX0_slightsThatSet_9 : decode cX0_slightsThatSet 9 = .ok (.invokevirtual 61, 3) := by decide +kernel
theorem dX0_slightsThatSet_12 : decode cX0_slightsThatSet 12 = .ok (.if_icmp .ge 32, 3) := by decide +kernel
theorem dX0_slightsThatSet_15 : decode cX0_slightsThatSet 15 = .ok (.aload_n 0, 1) := by decide +kernel
theorem dX0_slightsThatSet_16 : decode cX0_slightsThatSet 16 = .ok (.aload_n 1, 1) := by decide +kernel
theorem dX0_slightsThatSet_17 : decode cX0_slightsThatSet 17 = .ok (.aload_n 2, 1) := by decide +kernel
theorem dX0_slightsThatSet_18 : decode cX0_slightsThatSet 18 = .ok (.iload 5, 2) := by decide +kernel
theorem dX0_slightsThatSet_20 : decode cX0_slightsThatSet 20 = .ok (.invokevirtual 65, 3) := by decide +kernel
theorem dX0_slightsThatSet_23 : decode cX0_slightsThatSet 23 = .ok (.aload_n 1, 1) := by decide +kernel
theorem dX0_slightsThatSet_24 : decode cX0_slightsThatSet 24 = .ok (.aload_n 0, 1) := by decide +kernel
theorem dX0_slightsThatSet_25 : decode cX0_slightsThatSet 25 = .ok (.getfield 12, 3) := by decide +kernel
theorem dX0_slightsThatSet_28 : decode cX0_slightsThatSet 28 = .ok (.iload_n 3, 1) := by decide +kernel
theorem dX0_slightsThatSet_29 : decode cX0_slightsThatSet 29 = .ok (.invokevirtual 69, 3) := by decide +kernel
theorem dX0_slightsThatSet_32 : decode cX0_slightsThatSet 32 = .ok (.ifCond .eq 6, 3) := by decide +kernel
theorem dX0_slightsThatSet_35 : decode cX0_slightsThatSet 35 = .ok (.iinc 4 1, 3) := by decide +kernel
theorem dX0_slightsThatSet_38 : decode cX0_slightsThatSet 38 = .ok (.iinc 5 1, 3) := by decide +kernel
theorem dX0_slightsThatSet_41 : decode cX0_slightsThatSet 41 = .ok (.goto (-35), 3) := by decide +kernel
theorem dX0_slightsThatSet_44 : decode cX0_slightsThatSet 44 = .ok (.iload 4, 2) := by decide +kernel
theorem dX0_slightsThatSet_46 : decode cX0_slightsThatSet 46 = .ok (.ireturn, 1) := by decide +kernel
theorem dX0_slightsThatSetJust_0 : decode cX0_slightsThatSetJust 0 = .ok (.iconst 0, 1) := by decide +kernel
theorem dX0_slightsThatSetJust_1 : decode cX0_slightsThatSetJust 1 = .ok (.istore 4, 2) := by decide +kernel
theorem dX0_slightsThatSetJust_3 : decode cX0_slightsThatSetJust 3 = .ok (.iconst 0, 1) := by decide +kernel
theorem dX0_slightsThatSetJust_4 : decode cX0_slightsThatSetJust 4 = .ok (.istore 5, 2) := by decide +kernel
theorem dX0_slightsThatSetJust_6 : decode cX0_slightsThatSetJust 6 = .ok (.iload 5, 2) := by decide +kernel
theorem dX0_slightsThatSetJust_8 : decode cX0_slightsThatSetJust 8 = .ok (.aload_n 1, 1) := by decide +kernel
theorem dX0_slightsThatSetJust_9 : decode cX0_slightsThatSetJust 9 = .ok (.invokevirtual 61, 3) := by decide +kernel
theorem dX0_slightsThatSetJust_12 : decode cX0_slightsThatSetJust 12 = .ok (.if_icmp .ge 38, 3) := by decide +kernel
theorem dX0_slightsThatSetJust_15 : decode cX0_slightsThatSetJust 15 = .ok (.aload_n 0, 1) := by decide +kernel
theorem dX0_slightsThatSetJust_16 : decode cX0_slightsThatSetJust 16 = .ok (.aload_n 1, 1) := by decide +kernel
theorem dX0_slightsThatSetJust_17 : decode cX0_slightsThatSetJust 17 = .ok (.aload_n 2, 1) := by decide +kernel
theorem dX0_slightsThatSetJust_18 : decode cX0_slightsThatSetJust 18 = .ok (.iload 5, 2) := by decide +kernel
theorem dX0_slightsThatSetJust_20 : decode cX0_slightsThatSetJust 20 = .ok (.invokevirtual 65, 3) := by decide +kernel
theorem dX0_slightsThatSetJust_23 : decode cX0_slightsThatSetJust 23 = .ok (.aload_n 1, 1) := by decide +kernel
theorem dX0_slightsThatSetJust_24 : decode cX0_slightsThatSetJust 24 = .ok (.aload_n 0, 1) := by decide +kernel
theorem dX0_slightsThatSetJust_25 : decode cX0_slightsThatSetJust 25 = .ok (.getfield 12, 3) := by decide +kernel
theorem dX0_slightsThatSetJust_28 : decode cX0_slightsThatSetJust 28 = .ok (.invokevirtual 47, 3) := by decide +kernel
theorem dX0_slightsThatSetJust_31 : decode cX0_slightsThatSetJust 31 = .ok (.iload_n 3, 1) := by decide +kernel
theorem dX0_slightsThatSetJust_32 : decode cX0_slightsThatSetJust 32 = .ok (.if_icmp .ne 12, 3) := by decide +kernel
theorem dX0_slightsThatSetJust_35 : decode cX0_slightsThatSetJust 35 = .ok (.iload 4, 2) := by decide +kernel
theorem dX0_slightsThatSetJust_37 : decode cX0_slightsThatSetJust 37 = .ok (.iconst 1, 1) := by decide +kernel
theorem dX0_slightsThatSetJust_38 : decode cX0_slightsThatSetJust 38 = .ok (.iload 5, 2) := by decide +kernel
theorem dX0_slightsThatSetJust_40 : decode cX0_slightsThatSetJust 40 = .ok (.ishl, 1) := by decide +kernel
theorem dX0_slightsThatSetJust_41 : decode cX0_slightsThatSetJust 41 = .ok (.ior, 1) := by decide +kernel
theorem dX0_slightsThatSetJust_42 : decode cX0_slightsThatSetJust 42 = .ok (.istore 4, 2) := by decide +kernel
theorem dX0_slightsThatSetJust_44 : decode cX0_slightsThatSetJust 44 = .ok (.iinc 5 1, 3) := by decide +kernel
theorem dX0_slightsThatSetJust_47 : decode cX0_slightsThatSetJust 47 = .ok (.goto (-41), 3) := by decide +kernel
theorem dX0_slightsThatSetJust_50 : decode cX0_slightsThatSetJust 50 = .ok (.iload 4, 2) := by decide +kernel
theorem dX0_slightsThatSetJust_52 : decode cX0_slightsThatSetJust 52 = .ok (.ireturn, 1) := by decide +kernel
theorem dX0_findFew_0 : decode cX0_findFew 0 = .ok (.aload_n 0, 1) := by decide +kernel
theorem dX0_findFew_1 : decode cX0_findFew 1 = .ok (.getfield 12, 3) := by decide +kernel
theorem dX0_findFew_4 : decode cX0_findFew 4 = .ok (.aload_n 2, 1) := by decide +kernel
theorem dX0_findFew_5 : decode cX0_findFew 5 = .ok (.invokevirtual 40, 3) := by decide +kernel
theorem dX0_findFew_8 : decode cX0_findFew 8 = .ok (.aload_n 0, 1) := by decide +kernel
theorem dX0_findFew_9 : decode cX0_findFew 9 = .ok (.iconst (-1), 1) := by decide +kernel
theorem dX0_findFew_10 : decode cX0_findFew 10 = .ok (.putfield 30, 3) := by decide +kernel
theorem dX0_findFew_13 : decode cX0_findFew 13 = .ok (.iconst 0, 1) := by decide +kernel
theorem dX0_findFew_14 : decode cX0_findFew 14 = .ok (.istore 4, 2) := by decide +kernel
theorem dX0_findFew_16 : decode cX0_findFew 16 = .ok (.iload 4, 2) := by decide +kernel
theorem dX0_findFew_18 : decode cX0_findFew 18 = .ok (.iconst 3, 1) := by decide +kernel
theorem dX0_findFew_19 : decode cX0_findFew 19 = .ok (.if_icmp .gt 50, 3) := by decide +kernel
theorem dX0_findFew_22 : decode cX0_findFew 22 = .ok (.aload_n 0, 1) := by decide +kernel
theorem dX0_findFew_23 : decode cX0_findFew 23 = .ok (.getfield 30, 3) := by decide +kernel
theorem dX0_findFew_26 : decode cX0_findFew 26 = .ok (.iconst (-1), 1) := by decide +kernel
theorem dX0_findFew_27 : decode cX0_findFew 27 = .ok (.if_icmp .ne 42, 3) := by decide +kernel
theorem dX0_findFew_30 : decode cX0_findFew 30 = .ok (.aload_n 0, 1) := by decide +kernel
theorem dX0_findFew_31 : decode cX0_findFew 31 = .ok (.aload_n 1, 1) := by decide +kernel
theorem dX0_findFew_32 : decode cX0_findFew 32 = .ok (.iload_n 3, 1) := by decide +kernel
theorem dX0_findFew_33 : decode cX0_findFew 33 = .ok (.iload 4, 2) := by decide +kernel
theorem dX0_findFew_35 : decode cX0_findFew 35 = .ok (.iconst 0, 1) := by decide +kernel
theorem dX0_findFew_36 : decode cX0_findFew 36 = .ok (.iconst 0, 1) := by decide +kernel
theorem dX0_findFew_37 : decode cX0_findFew 37 = .ok (.invokevirtual 73, 3) := by decide +kernel
theorem dX0_findFew_40 : decode cX0_findFew 40 = .ok (.ifCond .eq 23, 3) := by decide +kernel
theorem dX0_findFew_43 : decode cX0_findFew 43 = .ok (.aload_n 0, 1) := by decide +kernel
theorem dX0_findFew_44 : decode cX0_findFew 44 = .ok (.iload 4, 2) := by decide +kernel
theorem dX0_findFew_46 : decode cX0_findFew 46 = .ok (.putfield 30, 3) := by decide +kernel
theorem dX0_findFew_49 : decode cX0_findFew 49 = .ok (.aload_n 0, 1) := by decide +kernel
theorem dX0_findFew_50 : decode cX0_findFew 50 = .ok (.getfield 18, 3) := by decide +kernel
theorem dX0_findFew_53 : decode cX0_findFew 53 = .ok (.iconst 0, 1) := by decide +kernel
theorem dX0_findFew_54 : decode cX0_findFew 54 = .ok (.aload_n 0, 1) := by decide +kernel
theorem dX0_findFew_55 : decode cX0_findFew 55 = .ok (.getfield 22, 3) := by decide +kernel
theorem dX0_findFew_58 : decode cX0_findFew 58 = .ok (.iconst 0, 1) := by decide +kernel
theorem dX0_findFew_59 : decode cX0_findFew 59 = .ok (.iconst 3, 1) := by decide +kernel
theorem dX0_findFew_60 : decode cX0_findFew 60 = .ok (.invokestatic 77, 3) := by decide +kernel
theorem dX0_findFew_63 : decode cX0_findFew 63 = .ok (.iinc 4 1, 3) := by decide +kernel
theorem dX0_findFew_66 : decode cX0_findFew 66 = .ok (.goto (-50), 3) := by decide +kernel
theorem dX0_findFew_69 : decode cX0_findFew 69 = .ok (.return_, 1) := by decide +kernel
theorem dX0_rowSets_0 : decode cX0_rowSets 0 = .ok (.iload 4, 2) := by decide +kernel
theorem dX0_rowSets_2 : decode cX0_rowSets 2 = .ok (.iload_n 3, 1) := by decide +kernel
theorem dX0_rowSets_3 : decode cX0_rowSets 3 = .ok (.if_icmp .ge 9, 3) := by decide +kernel
theorem dX0_rowSets_6 : decode cX0_rowSets 6 = .ok (.iload 4, 2) := by decide +kernel
theorem dX0_rowSets_8 : decode cX0_rowSets 8 = .ok (.iconst 3, 1) := by decide +kernel
theorem dX0_rowSets_9 : decode cX0_rowSets 9 = .ok (.if_icmp .lt 23, 3) := by decide +kernel
theorem dX0_rowSets_12 : decode cX0_rowSets 12 = .ok (.aload_n 1, 1) := by decide +kernel
theorem dX0_rowSets_13 : decode cX0_rowSets 13 = .ok (.aload_n 0, 1) := by decide +kernel
theorem dX0_rowSets_14 : decode cX0_rowSets 14 = .ok (.getfield 12, 3) := by decide +kernel
theorem dX0_rowSets_17 : decode cX0_rowSets 17 = .ok (.invokevirtual 47, 3) := by decide +kernel
theorem dX0_rowSets_20 : decode cX0_rowSets 20 = .ok (.iload_n 2, 1) := by decide +kernel
theorem dX0_rowSets_21 : decode cX0_rowSets 21 = .ok (.iand, 1) := by decide +kernel
theorem dX0_rowSets_22 : decode cX0_rowSets 22 = .ok (.iload_n 2, 1) := by decide +kernel
theorem dX0_rowSets_23 : decode cX0_rowSets 23 = .ok (.if_icmp .ne 7, 3) := by decide +kernel
theorem dX0_rowSets_26 : decode cX0_rowSets 26 = .ok (.iconst 1, 1) := by decide +kernel
theorem dX0_rowSets_27 : decode cX0_rowSets 27 = .ok (.goto 4, 3) := by decide +kernel
theorem dX0_rowSets_30 : decode cX0_rowSets 30 = .ok (.iconst 0, 1) := by decide +kernel
theorem dX0_rowSets_31 : decode cX0_rowSets 31 = .ok (.ireturn, 1) := by decide +kernel
theorem dX0_rowSets_32 : decode cX0_rowSets 32 = .ok (.iconst 0, 1) := by decide +kernel
theorem dX0_rowSets_33 : decode cX0_rowSets 33 = .ok (.istore 6, 2) := by decide +kernel
theorem dX0_rowSets_35 : decode cX0_rowSets 35 = .ok (.iload 5, 2) := by decide +kernel
theorem dX0_rowSets_37 : decode cX0_rowSets 37 = .ok (.istore 7, 2) := by decide +kernel
theorem dX0_rowSets_39 : decode cX0_rowSets 39 = .ok (.iload 7, 2) := by decide +kernel
theorem dX0_rowSets_41 : decode cX0_rowSets 41 = .ok (.aload_n 1, 1) := by decide +kernel
theorem dX0_rowSets_42 : decode cX0_rowSets 42 = .ok (.invokevirtual 61, 3) := by decide +kernel
theorem dX0_rowSets_45 : decode cX0_rowSets 45 = .ok (.if_icmp .ge 78, 3) := by decide +kernel
theorem dX0_rowSets_48 : decode cX0_rowSets 48 = .ok (.iload 6, 2) := by decide +kernel
theorem dX0_rowSets_50 : decode cX0_rowSets 50 = .ok (.ifCond .ne 73, 3) := by decide +kernel
theorem dX0_rowSets_53 : decode cX0_rowSets 53 = .ok (.iload 7, 2) := by decide +kernel
theorem dX0_rowSets_55 : decode cX0_rowSets 55 = .ok (.iconst 3, 1) := by decide +kernel
theorem dX0_rowSets_56 : decode cX0_rowSets 56 = .ok (.idiv, 1) := by decide +kernel
theorem dX0_rowSets_57 : decode cX0_rowSets 57 = .ok (.istore 8, 2) := by decide +kernel
theorem dX0_rowSets_59 : decode cX0_rowSets 59 = .ok (.aload_n 0, 1) := by decide +kernel
theorem dX0_rowSets_60 : decode cX0_rowSets 60 = .ok (.getfield 12, 3) := by decide +kernel
theorem dX0_rowSets_63 : decode cX0_rowSets 63 = .ok (.getfield 83, 3) := by decide +kernel
theorem dX0_rowSets_66 : decode cX0_rowSets 66 = .ok (.iload 8, 2) := by decide +kernel
theorem dX0_rowSets_68 : decode cX0_rowSets 68 = .ok (.iaload, 1) := by decide +kernel
theorem dX0_rowSets_69 : decode cX0_rowSets 69 = .ok (.istore 9, 2) := by decide +kernel
theorem dX0_rowSets_71 : decode cX0_rowSets 71 = .ok (.aload_n 1, 1) := by decide +kernel
theorem dX0_rowSets_72 : decode cX0_rowSets 72 = .ok (.aload_n 0, 1) := by decide +kernel
theorem dX0_rowSets_73 : decode cX0_rowSets 73 = .ok (.getfield 12, 3) := by decide +kernel
theorem dX0_rowSets_76 : decode cX0_rowSets 76 = .ok (.iload 7, 2) := by decide +kernel
theorem dX0_rowSets_78 : decode cX0_rowSets 78 = .ok (.invokevirtual 57, 3) := by decide +kernel
theorem dX0_rowSets_81 : decode cX0_rowSets 81 = .ok (.aload_n 0, 1) := by decide +kernel
theorem dX0_rowSets_82 : decode cX0_rowSets 82 = .ok (.getfield 18, 3) := by decide +kernel
theorem dX0_rowSets_85 : decode cX0_rowSets 85 = .ok (.iload 4, 2) := by decide +kernel
theorem dX0_rowSets_87 : decode cX0_rowSets 87 = .ok (.iload 7, 2) := by decide +kernel
theorem dX0_rowSets_89 : decode cX0_rowSets 89 = .ok (.iastore, 1) := by decide +kernel
theorem dX0_rowSets_90 : decode cX0_rowSets 90 = .ok (.aload_n 0, 1) := by decide +kernel
theorem dX0_rowSets_91 : decode cX0_rowSets 91 = .ok (.aload_n 1, 1) := by decide +kernel
theorem dX0_rowSets_92 : decode cX0_rowSets 92 = .ok (.iload_n 2, 1) := by decide +kernel
theorem dX0_rowSets_93 : decode cX0_rowSets 93 = .ok (.iload_n 3, 1) := by decide +kernel
theorem dX0_rowSets_94 : decode cX0_rowSets 94 = .ok (.iload 4, 2) := by decide +kernel
theorem dX0_rowSets_96 : decode cX0_rowSets 96 = .ok (.iconst 1, 1) := by decide +kernel
theorem dX0_rowSets_97 : decode cX0_rowSets 97 = .ok (.iadd, 1) := by decide +kernel
theorem dX0_rowSets_98 : decode cX0_rowSets 98 = .ok (.iload 7, 2) := by decide +kernel
theorem dX0_rowSets_100 : decode cX0_rowSets 100 = .ok (.invokevirtual 73, 3) := by decide +kernel
theorem dX0_rowSets_103 : decode cX0_rowSets 103 = .ok (.istore 6, 2) := by decide +kernel
theorem dX0_rowSets_105 : decode cX0_rowSets 105 = .ok (.aload_n 0, 1) := by decide +kernel
theorem dX0_rowSets_106 : decode cX0_rowSets 106 = .ok (.getfield 12, 3) := by decide +kernel
theorem dX0_rowSets_109 : decode cX0_rowSets 109 = .ok (.getfield 83, 3) := by decide +kernel
theorem dX0_rowSets_112 : decode cX0_rowSets 112 = .ok (.iload 8, 2) := by decide +kernel
theorem dX0_rowSets_114 : decode cX0_rowSets 114 = .ok (.iload 9, 2) := by decide +kernel
theorem dX0_rowSets_116 : decode cX0_rowSets 116 = .ok (.iastore, 1) := by decide +kernel
theorem dX0_rowSets_117 : decode cX0_rowSets 117 = .ok (.iinc 7 1, 3) := by decide +kernel
theorem dX0_rowSets_120 : decode cX0_rowSets 120 = .ok (.goto (-81), 3) := by decide +kernel
theorem dX0_rowSets_123 : decode cX0_rowSets 123 = .ok (.iload 6, 2) := by decide +kernel
theorem dX0_rowSets_125 : decode cX0_rowSets 125 = .ok (.ireturn, 1) := by decide +kernel
theorem dX0_findWeek_0 : decode cX0_findWeek 0 = .ok (.aload_n 0, 1) := by decide +kernel
theorem dX0_findWeek_1 : decode cX0_findWeek 1 = .ok (.getfield 12, 3) := by decide +kernel
theorem dX0_findWeek_4 : decode cX0_findWeek 4 = .ok (.aload_n 2, 1) := by decide +kernel
theorem dX0_findWeek_5 : decode cX0_findWeek 5 = .ok (.invokevirtual 40, 3) := by decide +kernel
theorem dX0_findWeek_8 : decode cX0_findWeek 8 = .ok (.aload_n 0, 1) := by decide +kernel
theorem dX0_findWeek_9 : decode cX0_findWeek 9 = .ok (.iconst (-1), 1) := by decide +kernel
theorem dX0_findWeek_10 : decode cX0_findWeek 10 = .ok (.putfield 30, 3) := by decide +kernel
theorem dX0_findWeek_13 : decode cX0_findWeek 13 = .ok (.aload_n 0, 1) := by decide +kernel
theorem dX0_findWeek_14 : decode cX0_findWeek 14 = .ok (.aload_n 1, 1) := by decide +kernel
theorem dX0_findWeek_15 : decode cX0_findWeek 15 = .ok (.aload_n 2, 1) := by decide +kernel
theorem dX0_findWeek_16 : decode cX0_findWeek 16 = .ok (.getfield 86, 3) := by decide +kernel
theorem dX0_findWeek_19 : decode cX0_findWeek 19 = .ok (.iload_n 3, 1) := by decide +kernel
theorem dX0_findWeek_20 : decode cX0_findWeek 20 = .ok (.iconst 0, 1) := by decide +kernel
theorem dX0_findWeek_21 : decode cX0_findWeek 21 = .ok (.iconst 0, 1) := by decide +kernel
theorem dX0_findWeek_22 : decode cX0_findWeek 22 = .ok (.invokevirtual 89, 3) := by decide +kernel
theorem dX0_findWeek_25 : decode cX0_findWeek 25 = .ok (.return_, 1) := by decide +kernel
theorem dX0_tryDay_0 : decode cX0_tryDay 0 = .ok (.iload 5, 2) := by decide +kernel
theorem dX0_tryDay_2 : decode cX0_tryDay 2 = .ok (.iload_n 3, 1) := by decide +kernel
theorem dX0_tryDay_3 : decode cX0_tryDay 3 = .ok (.iload 4, 2) := by decide +kernel
theorem dX0_tryDay_5 : decode cX0_tryDay 5 = .ok (.isub, 1) := by decide +kernel
theorem dX0_tryDay_6 : decode cX0_tryDay 6 = .ok (.aload_n 1, 1) := by decide +kernel
theorem dX0_tryDay_7 : decode cX0_tryDay 7 = .ok (.getfield 93, 3) := by decide +kernel
theorem dX0_tryDay_10 : decode cX0_tryDay 10 = .ok (.imul, 1) := by decide +kernel
theorem dX0_tryDay_11 : decode cX0_tryDay 11 = .ok (.iadd, 1) := by decide +kernel
theorem dX0_tryDay_12 : decode cX0_tryDay 12 = .ok (.aload_n 0, 1) := by decide +kernel
theorem dX0_tryDay_13 : decode cX0_tryDay 13 = .ok (.getfield 30, 3) := by decide +kernel
theorem dX0_tryDay_16 : decode cX0_tryDay 16 = .ok (.if_icmp .gt 4, 3) := by decide +kernel
theorem dX0_tryDay_19 : decode cX0_tryDay 19 = .ok (.return_, 1) := by decide +kernel
theorem dX0_tryDay_20 : decode cX0_tryDay 20 = .ok (.iload 4, 2) := by decide +kernel
theorem dX0_tryDay_22 : decode cX0_tryDay 22 = .ok (.iload_n 3, 1) := by decide +kernel
theorem dX0_tryDay_23 : decode cX0_tryDay 23 = .ok (.if_icmp .ge 9, 3) := by decide +kernel
theorem dX0_tryDay_26 : decode cX0_tryDay 26 = .ok (.iload 4, 2) := by decide +kernel
theorem dX0_tryDay_28 : decode cX0_tryDay 28 = .ok (.iconst 3, 1) := by decide +kernel
theorem dX0_tryDay_29 : decode cX0_tryDay 29 = .ok (.if_icmp .lt 24, 3) := by decide +kernel
theorem dX0_tryDay_32 : decode cX0_tryDay 32 = .ok (.aload_n 0, 1) := by decide +kernel
theorem dX0_tryDay_33 : decode cX0_tryDay 33 = .ok (.iload 5, 2) := by decide +kernel
theorem dX0_tryDay_35 : decode cX0_tryDay 35 = .ok (.putfield 30, 3) := by decide +kernel
theorem dX0_tryDay_38 : decode cX0_tryDay 38 = .ok (.aload_n 0, 1) := by decide +kernel
theorem dX0_tryDay_39 : decode cX0_tryDay 39 = .ok (.getfield 18, 3) := by decide +kernel
theorem dX0_tryDay_42 : decode cX0_tryDay 42 = .ok (.iconst 0, 1) := by decide +kernel
theorem dX0_tryDay_43 : decode cX0_tryDay 43 = .ok (.aload_n 0, 1) := by decide +kernel
theorem dX0_tryDay_44 : decode cX0_tryDay 44 = .ok (.getfield 22, 3) := by decide +kernel
theorem dX0_tryDay_47 : decode cX0_tryDay 47 = .ok (.iconst 0, 1) := by decide +kernel
theorem dX0_tryDay_48 : decode cX0_tryDay 48 = .ok (.iconst 3, 1) := by decide +kernel
theorem dX0_tryDay_49 : decode cX0_tryDay 49 = .ok (.invokestatic 77, 3) := by decide +kernel
theorem dX0_tryDay_52 : decode cX0_tryDay 52 = .ok (.return_, 1) := by decide +kernel
theorem dX0_tryDay_53 : decode cX0_tryDay 53 = .ok (.aload_n 0, 1) := by decide +kernel
theorem dX0_tryDay_54 : decode cX0_tryDay 54 = .ok (.getfield 12, 3) := by decide +kernel
theorem dX0_tryDay_57 : decode cX0_tryDay 57 = .ok (.getfield 83, 3) := by decide +kernel
theorem dX0_tryDay_60 : decode cX0_tryDay 60 = .ok (.iconst 0, 1) := by decide +kernel
theorem dX0_tryDay_61 : decode cX0_tryDay 61 = .ok (.aload_n 0, 1) := by decide +kernel
theorem dX0_tryDay_62 : decode cX0_tryDay 62 = .ok (.getfield 27, 3) := by decide +kernel
theorem dX0_tryDay_65 : decode cX0_tryDay 65 = .ok (.iload 4, 2) := by decide +kernel
theorem dX0_tryDay_67 : decode cX0_tryDay 67 = .ok (.aaload, 1) := by decide +kernel
theorem dX0_tryDay_68 : decode cX0_tryDay 68 = .ok (.iconst 0, 1) := by decide +kernel
theorem dX0_tryDay_69 : decode cX0_tryDay 69 = .ok (.iconst 4, 1) := by decide +kernel
theorem dX0_tryDay_70 : decode cX0_tryDay 70 = .ok (.invokestatic 77, 3) := by decide +kernel
theorem dX0_tryDay_73 : decode cX0_tryDay 73 = .ok (.iconst (-1), 1) := by decide +kernel
theorem dX0_tryDay_74 : decode cX0_tryDay 74 = .ok (.istore 6, 2) := by decide +kernel
theorem dX0_tryDay_76 : decode cX0_tryDay 76 = .ok (.iload 6, 2) := by decide +kernel
theorem dX0_tryDay_78 : decode cX0_tryDay 78 = .ok (.aload_n 1, 1) := by decide +kernel
theorem dX0_tryDay_79 : decode cX0_tryDay 79 = .ok (.invokevirtual 61, 3) := by decide +kernel
theorem dX0_tryDay_82 : decode cX0_tryDay 82 = .ok (.if_icmp .ge 102, 3) := by decide +kernel
theorem dX0_tryDay_85 : decode cX0_tryDay 85 = .ok (.aload_n 0, 1) := by decide +kernel
theorem dX0_tryDay_86 : decode cX0_tryDay 86 = .ok (.getfield 27, 3) := by decide +kernel
theorem dX0_tryDay_89 : decode cX0_tryDay 89 = .ok (.iload 4, 2) := by decide +kernel
theorem dX0_tryDay_91 : decode cX0_tryDay 91 = .ok (.aaload, 1) := by decide +kernel
theorem dX0_tryDay_92 : decode cX0_tryDay 92 = .ok (.iconst 0, 1) := by decide +kernel
theorem dX0_tryDay_93 : decode cX0_tryDay 93 = .ok (.aload_n 0, 1) := by decide +kernel
theorem dX0_tryDay_94 : decode cX0_tryDay 94 = .ok (.getfield 12, 3) := by decide +kernel
theorem dX0_tryDay_97 : decode cX0_tryDay 97 = .ok (.getfield 83, 3) := by decide +kernel
theorem dX0_tryDay_100 : decode cX0_tryDay 100 = .ok (.iconst 0, 1) := by decide +kernel
theorem dX0_tryDay_101 : decode cX0_tryDay 101 = .ok (.iconst 4, 1) := by decide +kernel
theorem dX0_tryDay_102 : decode cX0_tryDay 102 = .ok (.invokestatic 77, 3) := by decide +kernel
theorem dX0_tryDay_105 : decode cX0_tryDay 105 = .ok (.aload_n 0, 1) := by decide +kernel
theorem dX0_tryDay_106 : decode cX0_tryDay 106 = .ok (.getfield 12, 3) := by decide +kernel
theorem dX0_tryDay_109 : decode cX0_tryDay 109 = .ok (.iload 4, 2) := by decide +kernel
theorem dX0_tryDay_111 : decode cX0_tryDay 111 = .ok (.ifCond .ne 7, 3) := by decide +kernel
theorem dX0_tryDay_114 : decode cX0_tryDay 114 = .ok (.iload_n 2, 1) := by decide +kernel
theorem dX0_tryDay_115 : decode cX0_tryDay 115 = .ok (.goto 4, 3) := by decide +kernel
theorem dX0_tryDay_118 : decode cX0_tryDay 118 = .ok (.iconst 0, 1) := by decide +kernel
theorem dX0_tryDay_119 : decode cX0_tryDay 119 = .ok (.putfield 86, 3) := by decide +kernel
theorem dX0_tryDay_122 : decode cX0_tryDay 122 = .ok (.aload_n 1, 1) := by decide +kernel
theorem dX0_tryDay_123 : decode cX0_tryDay 123 = .ok (.aload_n 0, 1) := by decide +kernel
theorem dX0_tryDay_124 : decode cX0_tryDay 124 = .ok (.getfield 12, 3) := by decide +kernel
theorem dX0_tryDay_127 : decode cX0_tryDay 127 = .ok (.iload 6, 2) := by decide +kernel
theorem dX0_tryDay_129 : decode cX0_tryDay 129 = .ok (.invokevirtual 57, 3) := by decide +kernel
theorem dX0_tryDay_132 : decode cX0_tryDay 132 = .ok (.aload_n 0, 1) := by decide +kernel
theorem dX0_tryDay_133 : decode cX0_tryDay 133 = .ok (.getfield 18, 3) := by decide +kernel
theorem dX0_tryDay_136 : decode cX0_tryDay 136 = .ok (.iload 4, 2) := by decide +kernel
theorem dX0_tryDay_138 : decode cX0_tryDay 138 = .ok (.iload 6, 2) := by decide +kernel
theorem dX0_tryDay_140 : decode cX0_tryDay 140 = .ok (.iastore, 1) := by decide +kernel
theorem dX0_tryDay_141 : decode cX0_tryDay 141 = .ok (.aload_n 1, 1) := by decide +kernel
theorem dX0_tryDay_142 : decode cX0_tryDay 142 = .ok (.aload_n 0, 1) := by decide +kernel
theorem dX0_tryDay_143 : decode cX0_tryDay 143 = .ok (.getfield 12, 3) := by decide +kernel
theorem dX0_tryDay_146 : decode cX0_tryDay 146 = .ok (.invokevirtual 47, 3) := by decide +kernel
theorem dX0_tryDay_149 : decode cX0_tryDay 149 = .ok (.invokestatic 51, 3) := by decide +kernel
theorem dX0_tryDay_152 : decode cX0_tryDay 152 = .ok (.istore 7, 2) := by decide +kernel
theorem dX0_tryDay_154 : decode cX0_tryDay 154 = .ok (.aload_n 1, 1) := by decide +kernel
theorem dX0_tryDay_155 : decode cX0_tryDay 155 = .ok (.aload_n 0, 1) := by decide +kernel
theorem dX0_tryDay_156 : decode cX0_tryDay 156 = .ok (.getfield 12, 3) := by decide +kernel
theorem dX0_tryDay_159 : decode cX0_tryDay 159 = .ok (.invokevirtual 96, 3) := by decide +kernel
theorem dX0_tryDay_162 : decode cX0_tryDay 162 = .ok (.aload_n 0, 1) := by decide +kernel
theorem dX0_tryDay_163 : decode cX0_tryDay 163 = .ok (.aload_n 1, 1) := by decide +kernel
theorem dX0_tryDay_164 : decode cX0_tryDay 164 = .ok (.iload_n 2, 1) := by decide +kernel
theorem dX0_tryDay_165 : decode cX0_tryDay 165 = .ok (.iload_n 3, 1) := by decide +kernel
theorem dX0_tryDay_166 : decode cX0_tryDay 166 = .ok (.iload 4, 2) := by decide +kernel
theorem dX0_tryDay_168 : decode cX0_tryDay 168 = .ok (.iconst 1, 1) := by decide +kernel
theorem dX0_tryDay_169 : decode cX0_tryDay 169 = .ok (.iadd, 1) := by decide +kernel
theorem dX0_tryDay_170 : decode cX0_tryDay 170 = .ok (.iload 5, 2) := by decide +kernel
theorem dX0_tryDay_172 : decode cX0_tryDay 172 = .ok (.iload 7, 2) := by decide +kernel
theorem dX0_tryDay_174 : decode cX0_tryDay 174 = .ok (.iadd, 1) := by decide +kernel
theorem dX0_tryDay_175 : decode cX0_tryDay 175 = .ok (.invokevirtual 89, 3) := by decide +kernel
theorem dX0_tryDay_178 : decode cX0_tryDay 178 = .ok (.iinc 6 1, 3) := by decide +kernel
theorem dX0_tryDay_181 : decode cX0_tryDay 181 = .ok (.goto (-105), 3) := by decide +kernel
theorem dX0_tryDay_184 : decode cX0_tryDay 184 = .ok (.return_, 1) := by decide +kernel
theorem dX0_tell_0 : decode cX0_tell 0 = .ok (.iload_n 1, 1) := by decide +kernel
theorem dX0_tell_1 : decode cX0_tell 1 = .ok (.ifCond .ne 8, 3) := by decide +kernel
theorem dX0_tell_4 : decode cX0_tell 4 = .ok (.aload_n 0, 1) := by decide +kernel
theorem dX0_tell_5 : decode cX0_tell 5 = .ok (.getfield 30, 3) := by decide +kernel
theorem dX0_tell_8 : decode cX0_tell 8 = .ok (.ireturn, 1) := by decide +kernel
theorem dX0_tell_9 : decode cX0_tell 9 = .ok (.iload_n 1, 1) := by decide +kernel
theorem dX0_tell_10 : decode cX0_tell 10 = .ok (.bipush 10, 2) := by decide +kernel
theorem dX0_tell_12 : decode cX0_tell 12 = .ok (.isub, 1) := by decide +kernel
theorem dX0_tell_13 : decode cX0_tell 13 = .ok (.istore_n 3, 1) := by decide +kernel
theorem dX0_tell_14 : decode cX0_tell 14 = .ok (.iload_n 3, 1) := by decide +kernel
theorem dX0_tell_15 : decode cX0_tell 15 = .ok (.ifCond .lt 22, 3) := by decide +kernel
theorem dX0_tell_18 : decode cX0_tell 18 = .ok (.iload_n 3, 1) := by decide +kernel
theorem dX0_tell_19 : decode cX0_tell 19 = .ok (.iload_n 2, 1) := by decide +kernel
theorem dX0_tell_20 : decode cX0_tell 20 = .ok (.if_icmp .ge 17, 3) := by decide +kernel
theorem dX0_tell_23 : decode cX0_tell 23 = .ok (.iload_n 3, 1) := by decide +kernel
theorem dX0_tell_24 : decode cX0_tell 24 = .ok (.iconst 3, 1) := by decide +kernel
theorem dX0_tell_25 : decode cX0_tell 25 = .ok (.if_icmp .ge 12, 3) := by decide +kernel
theorem dX0_tell_28 : decode cX0_tell 28 = .ok (.aload_n 0, 1) := by decide +kernel
theorem dX0_tell_29 : decode cX0_tell 29 = .ok (.getfield 22, 3) := by decide +kernel
theorem dX0_tell_32 : decode cX0_tell 32 = .ok (.iload_n 3, 1) := by decide +kernel
theorem dX0_tell_33 : decode cX0_tell 33 = .ok (.iaload, 1) := by decide +kernel
theorem dX0_tell_34 : decode cX0_tell 34 = .ok (.goto 4, 3) := by decide +kernel
theorem dX0_tell_37 : decode cX0_tell 37 = .ok (.iconst (-1), 1) := by decide +kernel
theorem dX0_tell_38 : decode cX0_tell 38 = .ok (.ireturn, 1) := by decide +kernel
theorem dX0_runWeeks_0 : decode cX0_runWeeks 0 = .ok (.aload_n 0, 1) := by decide +kernel
theorem dX0_runWeeks_1 : decode cX0_runWeeks 1 = .ok (.getfield 12, 3) := by decide +kernel
theorem dX0_runWeeks_4 : decode cX0_runWeeks 4 = .ok (.aload_n 2, 1) := by decide +kernel
theorem dX0_runWeeks_5 : decode cX0_runWeeks 5 = .ok (.invokevirtual 40, 3) := by decide +kernel
theorem dX0_runWeeks_8 : decode cX0_runWeeks 8 = .ok (.aload_n 0, 1) := by decide +kernel
theorem dX0_runWeeks_9 : decode cX0_runWeeks 9 = .ok (.getfield 12, 3) := by decide +kernel
theorem dX0_runWeeks_12 : decode cX0_runWeeks 12 = .ok (.iconst 0, 1) := by decide +kernel
theorem dX0_runWeeks_13 : decode cX0_runWeeks 13 = .ok (.putfield 86, 3) := by decide +kernel
theorem dX0_runWeeks_16 : decode cX0_runWeeks 16 = .ok (.aload_n 0, 1) := by decide +kernel
theorem dX0_runWeeks_17 : decode cX0_runWeeks 17 = .ok (.iconst 0, 1) := by decide +kernel
theorem dX0_runWeeks_18 : decode cX0_runWeeks 18 = .ok (.putfield 30, 3) := by decide +kernel
theorem dX0_runWeeks_21 : decode cX0_runWeeks 21 = .ok (.aload_n 0, 1) := by decide +kernel
theorem dX0_runWeeks_22 : decode cX0_runWeeks 22 = .ok (.iload 4, 2) := by decide +kernel
theorem dX0_runWeeks_24 : decode cX0_runWeeks 24 = .ok (.putfield 99, 3) := by decide +kernel
theorem dX0_runWeeks_27 : decode cX0_runWeeks 27 = .ok (.iconst 0, 1) := by decide +kernel
theorem dX0_runWeeks_28 : decode cX0_runWeeks 28 = .ok (.istore 5, 2) := by decide +kernel
theorem dX0_runWeeks_30 : decode cX0_runWeeks 30 = .ok (.iload 5, 2) := by decide +kernel
theorem dX0_runWeeks_32 : decode cX0_runWeeks 32 = .ok (.iload_n 3, 1) := by decide +kernel
theorem dX0_runWeeks_33 : decode cX0_runWeeks 33 = .ok (.if_icmp .ge 75, 3) := by decide +kernel
theorem dX0_runWeeks_36 : decode cX0_runWeeks 36 = .ok (.aload_n 0, 1) := by decide +kernel
theorem dX0_runWeeks_37 : decode cX0_runWeeks 37 = .ok (.aload_n 1, 1) := by decide +kernel
theorem dX0_runWeeks_38 : decode cX0_runWeeks 38 = .ok (.getfield 102, 3) := by decide +kernel
theorem dX0_runWeeks_41 : decode cX0_runWeeks 41 = .ok (.invokevirtual 105, 3) := by decide +kernel
theorem dX0_runWeeks_44 : decode cX0_runWeeks 44 = .ok (.istore 6, 2) := by decide +kernel
theorem dX0_runWeeks_46 : decode cX0_runWeeks 46 = .ok (.aload_n 0, 1) := by decide +kernel
theorem dX0_runWeeks_47 : decode cX0_runWeeks 47 = .ok (.iconst 4, 1) := by decide +kernel
theorem dX0_runWeeks_48 : decode cX0_runWeeks 48 = .ok (.invokevirtual 105, 3) := by decide +kernel
theorem dX0_runWeeks_51 : decode cX0_runWeeks 51 = .ok (.istore 7, 2) := by decide +kernel
theorem dX0_runWeeks_53 : decode cX0_runWeeks 53 = .ok (.iload 7, 2) := by decide +kernel
theorem dX0_runWeeks_55 : decode cX0_runWeeks 55 = .ok (.iconst 3, 1) := by decide +kernel
theorem dX0_runWeeks_56 : decode cX0_runWeeks 56 = .ok (.if_icmp .ge 18, 3) := by decide +kernel
theorem dX0_runWeeks_59 : decode cX0_runWeeks 59 = .ok (.aload_n 1, 1) := by decide +kernel
theorem dX0_runWeeks_60 : decode cX0_runWeeks 60 = .ok (.aload_n 0, 1) := by decide +kernel
theorem dX0_runWeeks_61 : decode cX0_runWeeks 61 = .ok (.getfield 12, 3) := by decide +kernel
theorem dX0_runWeeks_64 : decode cX0_runWeeks 64 = .ok (.iload 6, 2) := by decide +kernel
theorem dX0_runWeeks_66 : decode cX0_runWeeks 66 = .ok (.iconst 3, 1) := by decide +kernel
theorem dX0_runWeeks_67 : decode cX0_runWeeks 67 = .ok (.imul, 1) := by decide +kernel
theorem dX0_runWeeks_68 : decode cX0_runWeeks 68 = .ok (.iload 7, 2) := by decide +kernel
theorem dX0_runWeeks_70 : decode cX0_runWeeks 70 = .ok (.iadd, 1) := by decide +kernel
theorem dX0_runWeeks_71 : decode cX0_runWeeks 71 = .ok (.invokevirtual 57, 3) := by decide +kernel
theorem dX0_runWeeks_74 : decode cX0_runWeeks 74 = .ok (.aload_n 0, 1) := by decide +kernel
theorem dX0_runWeeks_75 : decode cX0_runWeeks 75 = .ok (.dup, 1) := by decide +kernel
theorem dX0_runWeeks_76 : decode cX0_runWeeks 76 = .ok (.getfield 30, 3) := by decide +kernel
theorem dX0_runWeeks_79 : decode cX0_runWeeks 79 = .ok (.aload_n 1, 1) := by decide +kernel
theorem dX0_runWeeks_80 : decode cX0_runWeeks 80 = .ok (.aload_n 0, 1) := by decide +kernel
theorem dX0_runWeeks_81 : decode cX0_runWeeks 81 = .ok (.getfield 12, 3) := by decide +kernel
theorem dX0_runWeeks_84 : decode cX0_runWeeks 84 = .ok (.invokevirtual 47, 3) := by decide +kernel
theorem dX0_runWeeks_87 : decode cX0_runWeeks 87 = .ok (.invokestatic 51, 3) := by decide +kernel
theorem dX0_runWeeks_90 : decode cX0_runWeeks 90 = .ok (.iadd, 1) := by decide +kernel
theorem dX0_runWeeks_91 : decode cX0_runWeeks 91 = .ok (.putfield 30, 3) := by decide +kernel
theorem dX0_runWeeks_94 : decode cX0_runWeeks 94 = .ok (.aload_n 1, 1) := by decide +kernel
theorem dX0_runWeeks_95 : decode cX0_runWeeks 95 = .ok (.aload_n 0, 1) := by decide +kernel
theorem dX0_runWeeks_96 : decode cX0_runWeeks 96 = .ok (.getfield 12, 3) := by decide +kernel
theorem dX0_runWeeks_99 : decode cX0_runWeeks 99 = .ok (.invokevirtual 96, 3) := by decide +kernel
theorem dX0_runWeeks_102 : decode cX0_runWeeks 102 = .ok (.iinc 5 1, 3) := by decide +kernel
theorem dX0_runWeeks_105 : decode cX0_runWeeks 105 = .ok (.goto (-75), 3) := by decide +kernel
theorem dX0_runWeeks_108 : decode cX0_runWeeks 108 = .ok (.return_, 1) := by decide +kernel
theorem dX0_draw_0 : decode cX0_draw 0 = .ok (.aload_n 0, 1) := by decide +kernel
theorem dX0_draw_1 : decode cX0_draw 1 = .ok (.ldc2_w 108, 3) := by decide +kernel
theorem dX0_draw_4 : decode cX0_draw 4 = .ok (.aload_n 0, 1) := by decide +kernel
theorem dX0_draw_5 : decode cX0_draw 5 = .ok (.getfield 99, 3) := by decide +kernel
theorem dX0_draw_8 : decode cX0_draw 8 = .ok (.i2l, 1) := by decide +kernel
theorem dX0_draw_9 : decode cX0_draw 9 = .ok (.lmul, 1) := by decide +kernel
theorem dX0_draw_10 : decode cX0_draw 10 = .ok (.ldc2_w 110, 3) := by decide +kernel
theorem dX0_draw_13 : decode cX0_draw 13 = .ok (.ladd, 1) := by decide +kernel
theorem dX0_draw_14 : decode cX0_draw 14 = .ok (.ldc2_w 112, 3) := by decide +kernel
theorem dX0_draw_17 : decode cX0_draw 17 = .ok (.lrem, 1) := by decide +kernel
theorem dX0_draw_18 : decode cX0_draw 18 = .ok (.l2i, 1) := by decide +kernel
theorem dX0_draw_19 : decode cX0_draw 19 = .ok (.putfield 99, 3) := by decide +kernel
theorem dX0_draw_22 : decode cX0_draw 22 = .ok (.iload_n 1, 1) := by decide +kernel
theorem dX0_draw_23 : decode cX0_draw 23 = .ok (.ifCond .le 15, 3) := by decide +kernel
theorem dX0_draw_26 : decode cX0_draw 26 = .ok (.aload_n 0, 1) := by decide +kernel
theorem dX0_draw_27 : decode cX0_draw 27 = .ok (.getfield 99, 3) := by decide +kernel
theorem dX0_draw_30 : decode cX0_draw 30 = .ok (.ldc 114, 2) := by decide +kernel
theorem dX0_draw_32 : decode cX0_draw 32 = .ok (.idiv, 1) := by decide +kernel
theorem dX0_draw_33 : decode cX0_draw 33 = .ok (.iload_n 1, 1) := by decide +kernel
theorem dX0_draw_34 : decode cX0_draw 34 = .ok (.irem, 1) := by decide +kernel
theorem dX0_draw_35 : decode cX0_draw 35 = .ok (.goto 4, 3) := by decide +kernel
theorem dX0_draw_38 : decode cX0_draw 38 = .ok (.iconst 0, 1) := by decide +kernel
theorem dX0_draw_39 : decode cX0_draw 39 = .ok (.ireturn, 1) := by decide +kernel
