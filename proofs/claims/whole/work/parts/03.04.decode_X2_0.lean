theorem dX2_init_0 : decode cX2_init 0 = .ok (.aload_n 0, 1) := by decide +kernel
theorem dX2_init_1 : decode cX2_init 1 = .ok (.invokespecial 3, 3) := by decide +kernel
theorem dX2_init_4 : decode cX2_init 4 = .ok (.aload_n 0, 1) := by decide +kernel
theorem dX2_init_5 : decode cX2_init 5 = .ok (.bipush 6, 2) := by decide +kernel
theorem dX2_init_7 : decode cX2_init 7 = .ok (.newarray .int, 2) := by decide +kernel
theorem dX2_init_9 : decode cX2_init 9 = .ok (.putfield 9, 3) := by decide +kernel
theorem dX2_init_12 : decode cX2_init 12 = .ok (.aload_n 0, 1) := by decide +kernel
theorem dX2_init_13 : decode cX2_init 13 = .ok (.bipush 6, 2) := by decide +kernel
theorem dX2_init_15 : decode cX2_init 15 = .ok (.newarray .int, 2) := by decide +kernel
theorem dX2_init_17 : decode cX2_init 17 = .ok (.putfield 15, 3) := by decide +kernel
theorem dX2_init_20 : decode cX2_init 20 = .ok (.aload_n 0, 1) := by decide +kernel
theorem dX2_init_21 : decode cX2_init 21 = .ok (.bipush 6, 2) := by decide +kernel
theorem dX2_init_23 : decode cX2_init 23 = .ok (.newarray .int, 2) := by decide +kernel
theorem dX2_init_25 : decode cX2_init 25 = .ok (.putfield 18, 3) := by decide +kernel
theorem dX2_init_28 : decode cX2_init 28 = .ok (.return_, 1) := by decide +kernel
theorem dX2_add_0 : decode cX2_add 0 = .ok (.aload_n 0, 1) := by decide +kernel
theorem dX2_add_1 : decode cX2_add 1 = .ok (.getfield 21, 3) := by decide +kernel
theorem dX2_add_4 : decode cX2_add 4 = .ok (.bipush 6, 2) := by decide +kernel
theorem dX2_add_6 : decode cX2_add 6 = .ok (.if_icmp .ge 43, 3) := by decide +kernel
theorem dX2_add_9 : decode cX2_add 9 = .ok (.aload_n 0, 1) := by decide +kernel
theorem dX2_add_10 : decode cX2_add 10 = .ok (.getfield 9, 3) := by decide +kernel
theorem dX2_add_13 : decode cX2_add 13 = .ok (.aload_n 0, 1) := by decide +kernel
theorem dX2_add_14 : decode cX2_add 14 = .ok (.getfield 21, 3) := by decide +kernel
theorem dX2_add_17 : decode cX2_add 17 = .ok (.iload_n 1, 1) := by decide +kernel
theorem dX2_add_18 : decode cX2_add 18 = .ok (.iastore, 1) := by decide +kernel
theorem dX2_add_19 : decode cX2_add 19 = .ok (.aload_n 0, 1) := by decide +kernel
theorem dX2_add_20 : decode cX2_add 20 = .ok (.getfield 15, 3) := by decide +kernel
theorem dX2_add_23 : decode cX2_add 23 = .ok (.aload_n 0, 1) := by decide +kernel
theorem dX2_add_24 : decode cX2_add 24 = .ok (.getfield 21, 3) := by decide +kernel
theorem dX2_add_27 : decode cX2_add 27 = .ok (.iload_n 2, 1) := by decide +kernel
theorem dX2_add_28 : decode cX2_add 28 = .ok (.iastore, 1) := by decide +kernel
theorem dX2_add_29 : decode cX2_add 29 = .ok (.aload_n 0, 1) := by decide +kernel
theorem dX2_add_30 : decode cX2_add 30 = .ok (.getfield 18, 3) := by decide +kernel
theorem dX2_add_33 : decode cX2_add 33 = .ok (.aload_n 0, 1) := by decide +kernel
theorem dX2_add_34 : decode cX2_add 34 = .ok (.getfield 21, 3) := by decide +kernel
theorem dX2_add_37 : decode cX2_add 37 = .ok (.iload_n 3, 1) := by decide +kernel
theorem dX2_add_38 : decode cX2_add 38 = .ok (.iastore, 1) := by decide +kernel
theorem dX2_add_39 : decode cX2_add 39 = .ok (.aload_n 0, 1) := by decide +kernel
theorem dX2_add_40 : decode cX2_add 40 = .ok (.dup, 1) := by decide +kernel
theorem dX2_add_41 : decode cX2_add 41 = .ok (.getfield 21, 3) := by decide +kernel
theorem dX2_add_44 : decode cX2_add 44 = .ok (.iconst 1, 1) := by decide +kernel
theorem dX2_add_45 : decode cX2_add 45 = .ok (.iadd, 1) := by decide +kernel
theorem dX2_add_46 : decode cX2_add 46 = .ok (.putfield 21, 3) := by decide +kernel
theorem dX2_add_49 : decode cX2_add 49 = .ok (.return_, 1) := by decide +kernel
theorem dX2_copyFrom_0 : decode cX2_copyFrom 0 = .ok (.aload_n 1, 1) := by decide +kernel
theorem dX2_copyFrom_1 : decode cX2_copyFrom 1 = .ok (.getfield 9, 3) := by decide +kernel
theorem dX2_copyFrom_4 : decode cX2_copyFrom 4 = .ok (.iconst 0, 1) := by decide +kernel
theorem dX2_copyFrom_5 : decode cX2_copyFrom 5 = .ok (.aload_n 0, 1) := by decide +kernel
theorem dX2_copyFrom_6 : decode cX2_copyFrom 6 = .ok (.getfield 9, 3) := by decide +kernel
theorem dX2_copyFrom_9 : decode cX2_copyFrom 9 = .ok (.iconst 0, 1) := by decide +kernel
theorem dX2_copyFrom_10 : decode cX2_copyFrom 10 = .ok (.bipush 6, 2) := by decide +kernel
theorem dX2_copyFrom_12 : decode cX2_copyFrom 12 = .ok (.invokestatic 25, 3) := by decide +kernel
theorem dX2_copyFrom_15 : decode cX2_copyFrom 15 = .ok (.aload_n 1, 1) := by decide +kernel
theorem dX2_copyFrom_16 : decode cX2_copyFrom 16 = .ok (.getfield 15, 3) := by decide +kernel
theorem dX2_copyFrom_19 : decode cX2_copyFrom 19 = .ok (.iconst 0, 1) := by decide +kernel
theorem dX2_copyFrom_20 : decode cX2_copyFrom 20 = .ok (.aload_n 0, 1) := by decide +kernel
theorem dX2_copyFrom_21 : decode cX2_copyFrom 21 = .ok (.getfield 15, 3) := by decide +kernel
theorem dX2_copyFrom_24 : decode cX2_copyFrom 24 = .ok (.iconst 0, 1) := by decide +kernel
theorem dX2_copyFrom_25 : decode cX2_copyFrom 25 = .ok (.bipush 6, 2) := by decide +kernel
theorem dX2_copyFrom_27 : decode cX2_copyFrom 27 = .ok (.invokestatic 25, 3) := by decide +kernel
theorem dX2_copyFrom_30 : decode cX2_copyFrom 30 = .ok (.aload_n 1, 1) := by decide +kernel
theorem dX2_copyFrom_31 : decode cX2_copyFrom 31 = .ok (.getfield 18, 3) := by decide +kernel
theorem dX2_copyFrom_34 : decode cX2_copyFrom 34 = .ok (.iconst 0, 1) := by decide +kernel
theorem dX2_copyFrom_35 : decode cX2_copyFrom 35 = .ok (.aload_n 0, 1) := by decide +kernel
theorem dX2_copyFrom_36 : decode cX2_copyFrom 36 = .ok (.getfield 18, 3) := by decide +kernel
theorem dX2_copyFrom_39 : decode cX2_copyFrom 39 = .ok (.iconst 0, 1) := by decide +kernel
theorem dX2_copyFrom_40 : decode cX2_copyFrom 40 = .ok (.bipush 6, 2) := by decide +kernel
theorem dX2_copyFrom_42 : decode cX2_copyFrom 42 = .ok (.invokestatic 25, 3) := by decide +kernel
theorem dX2_copyFrom_45 : decode cX2_copyFrom 45 = .ok (.aload_n 0, 1) := by decide +kernel
theorem dX2_copyFrom_46 : decode cX2_copyFrom 46 = .ok (.aload_n 1, 1) := by decide +kernel
theorem dX2_copyFrom_47 : decode cX2_copyFrom 47 = .ok (.getfield 21, 3) := by decide +kernel
theorem dX2_copyFrom_50 : decode cX2_copyFrom 50 = .ok (.putfield 21, 3) := by decide +kernel
theorem dX2_copyFrom_53 : decode cX2_copyFrom 53 = .ok (.return_, 1) := by decide +kernel
theorem dX2_prides_0 : decode cX2_prides 0 = .ok (.iconst 0, 1) := by decide +kernel
theorem dX2_prides_1 : decode cX2_prides 1 = .ok (.istore_n 3, 1) := by decide +kernel
theorem dX2_prides_2 : decode cX2_prides 2 = .ok (.iconst 1, 1) := by decide +kernel
theorem dX2_prides_3 : decode cX2_prides 3 = .ok (.istore 4, 2) := by decide +kernel
theorem dX2_prides_5 : decode cX2_prides 5 = .ok (.iload 4, 2) := by decide +kernel
theorem dX2_prides_7 : decode cX2_prides 7 = .ok (.bipush 9, 2) := by decide +kernel
theorem dX2_prides_9 : decode cX2_prides 9 = .ok (.if_icmp .gt 29, 3) := by decide +kernel
theorem dX2_prides_12 : decode cX2_prides 12 = .ok (.aload_n 0, 1) := by decide +kernel
theorem dX2_prides_13 : decode cX2_prides 13 = .ok (.iload_n 1, 1) := by decide +kernel
theorem dX2_prides_14 : decode cX2_prides 14 = .ok (.iload_n 2, 1) := by decide +kernel
theorem dX2_prides_15 : decode cX2_prides 15 = .ok (.iload 4, 2) := by decide +kernel
theorem dX2_prides_17 : decode cX2_prides 17 = .ok (.invokevirtual 31, 3) := by decide +kernel
theorem dX2_prides_20 : decode cX2_prides 20 = .ok (.ifCond .eq 12, 3) := by decide +kernel
theorem dX2_prides_23 : decode cX2_prides 23 = .ok (.iload_n 3, 1) := by decide +kernel
theorem dX2_prides_24 : decode cX2_prides 24 = .ok (.iconst 1, 1) := by decide +kernel
theorem dX2_prides_25 : decode cX2_prides 25 = .ok (.iload 4, 2) := by decide +kernel
theorem dX2_prides_27 : decode cX2_prides 27 = .ok (.iconst 1, 1) := by decide +kernel
theorem dX2_prides_28 : decode cX2_prides 28 = .ok (.isub, 1) := by decide +kernel
theorem dX2_prides_29 : decode cX2_prides 29 = .ok (.ishl, 1) := by decide +kernel
theorem dX2_prides_30 : decode cX2_prides 30 = .ok (.ior, 1) := by decide +kernel
theorem dX2_prides_31 : decode cX2_prides 31 = .ok (.istore_n 3, 1) := by decide +kernel
theorem dX2_prides_32 : decode cX2_prides 32 = .ok (.iinc 4 1, 3) := by decide +kernel
theorem dX2_prides_35 : decode cX2_prides 35 = .ok (.goto (-30), 3) := by decide +kernel
theorem dX2_prides_38 : decode cX2_prides 38 = .ok (.iload_n 3, 1) := by decide +kernel
theorem dX2_prides_39 : decode cX2_prides 39 = .ok (.ireturn, 1) := by decide +kernel
theorem dX2_allowsPride_0 : decode cX2_allowsPride 0 = .ok (.iconst 0, 1) := by decide +kernel
theorem dX2_allowsPride_1 : decode cX2_allowsPride 1 = .ok (.istore 4, 2) := by decide +kernel
theorem dX2_allowsPride_3 : decode cX2_allowsPride 3 = .ok (.iload 4, 2) := by decide +kernel
theorem dX2_allowsPride_5 : decode cX2_allowsPride 5 = .ok (.aload_n 0, 1) := by decide +kernel
theorem dX2_allowsPride_6 : decode cX2_allowsPride 6 = .ok (.getfield 21, 3) := by decide +kernel
theorem dX2_allowsPride_9 : decode cX2_allowsPride 9 = .ok (.if_icmp .ge 44, 3) := by decide +kernel
theorem dX2_allowsPride_12 : decode cX2_allowsPride 12 = .ok (.aload_n 0, 1) := by decide +kernel
theorem dX2_allowsPride_13 : decode cX2_allowsPride 13 = .ok (.getfield 9, 3) := by decide +kernel
theorem dX2_allowsPride_16 : decode cX2_allowsPride 16 = .ok (.iload 4, 2) := by decide +kernel
theorem dX2_allowsPride_18 : decode cX2_allowsPride 18 = .ok (.iaload, 1) := by decide +kernel
theorem dX2_allowsPride_19 : decode cX2_allowsPride 19 = .ok (.iload_n 1, 1) := by decide +kernel
theorem dX2_allowsPride_20 : decode cX2_allowsPride 20 = .ok (.if_icmp .ne 27, 3) := by decide +kernel
theorem dX2_allowsPride_23 : decode cX2_allowsPride 23 = .ok (.iload_n 2, 1) := by decide +kernel
theorem dX2_allowsPride_24 : decode cX2_allowsPride 24 = .ok (.iload_n 3, 1) := by decide +kernel
theorem dX2_allowsPride_25 : decode cX2_allowsPride 25 = .ok (.aload_n 0, 1) := by decide +kernel
theorem dX2_allowsPride_26 : decode cX2_allowsPride 26 = .ok (.getfield 15, 3) := by decide +kernel
theorem dX2_allowsPride_29 : decode cX2_allowsPride 29 = .ok (.iload 4, 2) := by decide +kernel
theorem dX2_allowsPride_31 : decode cX2_allowsPride 31 = .ok (.iaload, 1) := by decide +kernel
theorem dX2_allowsPride_32 : decode cX2_allowsPride 32 = .ok (.invokestatic 35, 3) := by decide +kernel
theorem dX2_allowsPride_35 : decode cX2_allowsPride 35 = .ok (.aload_n 0, 1) := by decide +kernel
theorem dX2_allowsPride_36 : decode cX2_allowsPride 36 = .ok (.getfield 18, 3) := by decide +kernel
theorem dX2_allowsPride_39 : decode cX2_allowsPride 39 = .ok (.iload 4, 2) := by decide +kernel
theorem dX2_allowsPride_41 : decode cX2_allowsPride 41 = .ok (.iaload, 1) := by decide +kernel
theorem dX2_allowsPride_42 : decode cX2_allowsPride 42 = .ok (.if_icmp .eq 5, 3) := by decide +kernel
theorem dX2_allowsPride_45 : decode cX2_allowsPride 45 = .ok (.iconst 0, 1) := by decide +kernel
theorem dX2_allowsPride_46 : decode cX2_allowsPride 46 = .ok (.ireturn, 1) := by decide +kernel
theorem dX2_allowsPride_47 : decode cX2_allowsPride 47 = .ok (.iinc 4 1, 3) := by decide +kernel
theorem dX2_allowsPride_50 : decode cX2_allowsPride 50 = .ok (.goto (-47), 3) := by decide +kernel
theorem dX2_allowsPride_53 : decode cX2_allowsPride 53 = .ok (.iconst 1, 1) := by decide +kernel
theorem dX2_allowsPride_54 : decode cX2_allowsPride 54 = .ok (.ireturn, 1) := by decide +kernel
