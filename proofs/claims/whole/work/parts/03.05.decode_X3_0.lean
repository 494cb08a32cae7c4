theorem dX3_init_0 : decode cX3_init 0 = .ok (.aload_n 0, 1) := by decide +kernel
theorem dX3_init_1 : decode cX3_init 1 = .ok (.invokespecial 3, 3) := by decide +kernel
theorem dX3_init_4 : decode cX3_init 4 = .ok (.aload_n 0, 1) := by decide +kernel
theorem dX3_init_5 : decode cX3_init 5 = .ok (.iconst 4, 1) := by decide +kernel
theorem dX3_init_6 : decode cX3_init 6 = .ok (.newarray .int, 2) := by decide +kernel
theorem dX3_init_8 : decode cX3_init 8 = .ok (.putfield 9, 3) := by decide +kernel
theorem dX3_init_11 : decode cX3_init 11 = .ok (.aload_n 0, 1) := by decide +kernel
theorem dX3_init_12 : decode cX3_init 12 = .ok (.iconst 4, 1) := by decide +kernel
theorem dX3_init_13 : decode cX3_init 13 = .ok (.newarray .int, 2) := by decide +kernel
theorem dX3_init_15 : decode cX3_init 15 = .ok (.putfield 15, 3) := by decide +kernel
theorem dX3_init_18 : decode cX3_init 18 = .ok (.aload_n 0, 1) := by decide +kernel
theorem dX3_init_19 : decode cX3_init 19 = .ok (.iconst 4, 1) := by decide +kernel
theorem dX3_init_20 : decode cX3_init 20 = .ok (.newarray .int, 2) := by decide +kernel
theorem dX3_init_22 : decode cX3_init 22 = .ok (.putfield 18, 3) := by decide +kernel
theorem dX3_init_25 : decode cX3_init 25 = .ok (.aload_n 0, 1) := by decide +kernel
theorem dX3_init_26 : decode cX3_init 26 = .ok (.iconst 4, 1) := by decide +kernel
theorem dX3_init_27 : decode cX3_init 27 = .ok (.newarray .int, 2) := by decide +kernel
theorem dX3_init_29 : decode cX3_init 29 = .ok (.putfield 21, 3) := by decide +kernel
theorem dX3_init_32 : decode cX3_init 32 = .ok (.aload_n 0, 1) := by decide +kernel
theorem dX3_init_33 : decode cX3_init 33 = .ok (.iconst 4, 1) := by decide +kernel
theorem dX3_init_34 : decode cX3_init 34 = .ok (.newarray .int, 2) := by decide +kernel
theorem dX3_init_36 : decode cX3_init 36 = .ok (.putfield 24, 3) := by decide +kernel
theorem dX3_init_39 : decode cX3_init 39 = .ok (.aload_n 0, 1) := by decide +kernel
theorem dX3_init_40 : decode cX3_init 40 = .ok (.iconst 4, 1) := by decide +kernel
theorem dX3_init_41 : decode cX3_init 41 = .ok (.newarray .int, 2) := by decide +kernel
theorem dX3_init_43 : decode cX3_init 43 = .ok (.putfield 27, 3) := by decide +kernel
theorem dX3_init_46 : decode cX3_init 46 = .ok (.aload_n 0, 1) := by decide +kernel
theorem dX3_init_47 : decode cX3_init 47 = .ok (.new 30, 3) := by decide +kernel
theorem dX3_init_50 : decode cX3_init 50 = .ok (.dup, 1) := by decide +kernel
theorem dX3_init_51 : decode cX3_init 51 = .ok (.invokespecial 32, 3) := by decide +kernel
theorem dX3_init_54 : decode cX3_init 54 = .ok (.putfield 33, 3) := by decide +kernel
theorem dX3_init_57 : decode cX3_init 57 = .ok (.return_, 1) := by decide +kernel
theorem dX3_clear_0 : decode cX3_clear 0 = .ok (.aload_n 0, 1) := by decide +kernel
theorem dX3_clear_1 : decode cX3_clear 1 = .ok (.getfield 9, 3) := by decide +kernel
theorem dX3_clear_4 : decode cX3_clear 4 = .ok (.iconst 0, 1) := by decide +kernel
theorem dX3_clear_5 : decode cX3_clear 5 = .ok (.invokestatic 37, 3) := by decide +kernel
theorem dX3_clear_8 : decode cX3_clear 8 = .ok (.aload_n 0, 1) := by decide +kernel
theorem dX3_clear_9 : decode cX3_clear 9 = .ok (.getfield 15, 3) := by decide +kernel
theorem dX3_clear_12 : decode cX3_clear 12 = .ok (.iconst 0, 1) := by decide +kernel
theorem dX3_clear_13 : decode cX3_clear 13 = .ok (.invokestatic 37, 3) := by decide +kernel
theorem dX3_clear_16 : decode cX3_clear 16 = .ok (.aload_n 0, 1) := by decide +kernel
theorem dX3_clear_17 : decode cX3_clear 17 = .ok (.getfield 18, 3) := by decide +kernel
theorem dX3_clear_20 : decode cX3_clear 20 = .ok (.iconst 0, 1) := by decide +kernel
theorem dX3_clear_21 : decode cX3_clear 21 = .ok (.invokestatic 37, 3) := by decide +kernel
theorem dX3_clear_24 : decode cX3_clear 24 = .ok (.aload_n 0, 1) := by decide +kernel
theorem dX3_clear_25 : decode cX3_clear 25 = .ok (.getfield 21, 3) := by decide +kernel
theorem dX3_clear_28 : decode cX3_clear 28 = .ok (.iconst 0, 1) := by decide +kernel
theorem dX3_clear_29 : decode cX3_clear 29 = .ok (.invokestatic 37, 3) := by decide +kernel
theorem dX3_clear_32 : decode cX3_clear 32 = .ok (.aload_n 0, 1) := by decide +kernel
theorem dX3_clear_33 : decode cX3_clear 33 = .ok (.getfield 33, 3) := by decide +kernel
theorem dX3_clear_36 : decode cX3_clear 36 = .ok (.iconst 0, 1) := by decide +kernel
theorem dX3_clear_37 : decode cX3_clear 37 = .ok (.putfield 43, 3) := by decide +kernel
theorem dX3_clear_40 : decode cX3_clear 40 = .ok (.aload_n 0, 1) := by decide +kernel
theorem dX3_clear_41 : decode cX3_clear 41 = .ok (.iconst 0, 1) := by decide +kernel
theorem dX3_clear_42 : decode cX3_clear 42 = .ok (.putfield 47, 3) := by decide +kernel
theorem dX3_clear_45 : decode cX3_clear 45 = .ok (.aload_n 0, 1) := by decide +kernel
theorem dX3_clear_46 : decode cX3_clear 46 = .ok (.iconst 0, 1) := by decide +kernel
theorem dX3_clear_47 : decode cX3_clear 47 = .ok (.putfield 50, 3) := by decide +kernel
theorem dX3_clear_50 : decode cX3_clear 50 = .ok (.aload_n 0, 1) := by decide +kernel
theorem dX3_clear_51 : decode cX3_clear 51 = .ok (.iconst 0, 1) := by decide +kernel
theorem dX3_clear_52 : decode cX3_clear 52 = .ok (.putfield 53, 3) := by decide +kernel
theorem dX3_clear_55 : decode cX3_clear 55 = .ok (.aload_n 0, 1) := by decide +kernel
theorem dX3_clear_56 : decode cX3_clear 56 = .ok (.iconst 0, 1) := by decide +kernel
theorem dX3_clear_57 : decode cX3_clear 57 = .ok (.putfield 56, 3) := by decide +kernel
theorem dX3_clear_60 : decode cX3_clear 60 = .ok (.return_, 1) := by decide +kernel
theorem dX3_copyFrom_0 : decode cX3_copyFrom 0 = .ok (.aload_n 1, 1) := by decide +kernel
theorem dX3_copyFrom_1 : decode cX3_copyFrom 1 = .ok (.getfield 18, 3) := by decide +kernel
theorem dX3_copyFrom_4 : decode cX3_copyFrom 4 = .ok (.iconst 0, 1) := by decide +kernel
theorem dX3_copyFrom_5 : decode cX3_copyFrom 5 = .ok (.aload_n 0, 1) := by decide +kernel
theorem dX3_copyFrom_6 : decode cX3_copyFrom 6 = .ok (.getfield 18, 3) := by decide +kernel
theorem dX3_copyFrom_9 : decode cX3_copyFrom 9 = .ok (.iconst 0, 1) := by decide +kernel
theorem dX3_copyFrom_10 : decode cX3_copyFrom 10 = .ok (.iconst 4, 1) := by decide +kernel
theorem dX3_copyFrom_11 : decode cX3_copyFrom 11 = .ok (.invokestatic 59, 3) := by decide +kernel
theorem dX3_copyFrom_14 : decode cX3_copyFrom 14 = .ok (.aload_n 1, 1) := by decide +kernel
theorem dX3_copyFrom_15 : decode cX3_copyFrom 15 = .ok (.getfield 21, 3) := by decide +kernel
theorem dX3_copyFrom_18 : decode cX3_copyFrom 18 = .ok (.iconst 0, 1) := by decide +kernel
theorem dX3_copyFrom_19 : decode cX3_copyFrom 19 = .ok (.aload_n 0, 1) := by decide +kernel
theorem dX3_copyFrom_20 : decode cX3_copyFrom 20 = .ok (.getfield 21, 3) := by decide +kernel
theorem dX3_copyFrom_23 : decode cX3_copyFrom 23 = .ok (.iconst 0, 1) := by decide +kernel
theorem dX3_copyFrom_24 : decode cX3_copyFrom 24 = .ok (.iconst 4, 1) := by decide +kernel
theorem dX3_copyFrom_25 : decode cX3_copyFrom 25 = .ok (.invokestatic 59, 3) := by decide +kernel
theorem dX3_copyFrom_28 : decode cX3_copyFrom 28 = .ok (.aload_n 0, 1) := by decide +kernel
theorem dX3_copyFrom_29 : decode cX3_copyFrom 29 = .ok (.getfield 33, 3) := by decide +kernel
theorem dX3_copyFrom_32 : decode cX3_copyFrom 32 = .ok (.aload_n 1, 1) := by decide +kernel
theorem dX3_copyFrom_33 : decode cX3_copyFrom 33 = .ok (.getfield 33, 3) := by decide +kernel
theorem dX3_copyFrom_36 : decode cX3_copyFrom 36 = .ok (.invokevirtual 65, 3) := by decide +kernel
theorem dX3_copyFrom_39 : decode cX3_copyFrom 39 = .ok (.aload_n 0, 1) := by decide +kernel
theorem dX3_copyFrom_40 : decode cX3_copyFrom 40 = .ok (.aload_n 1, 1) := by decide +kernel
theorem dX3_copyFrom_41 : decode cX3_copyFrom 41 = .ok (.getfield 50, 3) := by decide +kernel
theorem dX3_copyFrom_44 : decode cX3_copyFrom 44 = .ok (.putfield 50, 3) := by decide +kernel
theorem dX3_copyFrom_47 : decode cX3_copyFrom 47 = .ok (.aload_n 0, 1) := by decide +kernel
theorem dX3_copyFrom_48 : decode cX3_copyFrom 48 = .ok (.aload_n 1, 1) := by decide +kernel
theorem dX3_copyFrom_49 : decode cX3_copyFrom 49 = .ok (.getfield 53, 3) := by decide +kernel
theorem dX3_copyFrom_52 : decode cX3_copyFrom 52 = .ok (.putfield 53, 3) := by decide +kernel
theorem dX3_copyFrom_55 : decode cX3_copyFrom 55 = .ok (.aload_n 0, 1) := by decide +kernel
theorem dX3_copyFrom_56 : decode cX3_copyFrom 56 = .ok (.aload_n 1, 1) := by decide +kernel
theorem dX3_copyFrom_57 : decode cX3_copyFrom 57 = .ok (.getfield 56, 3) := by decide +kernel
theorem dX3_copyFrom_60 : decode cX3_copyFrom 60 = .ok (.putfield 56, 3) := by decide +kernel
theorem dX3_copyFrom_63 : decode cX3_copyFrom 63 = .ok (.aload_n 0, 1) := by decide +kernel
theorem dX3_copyFrom_64 : decode cX3_copyFrom 64 = .ok (.aload_n 1, 1) := by decide +kernel
theorem dX3_copyFrom_65 : decode cX3_copyFrom 65 = .ok (.invokevirtual 69, 3) := by decide +kernel
theorem dX3_copyFrom_68 : decode cX3_copyFrom 68 = .ok (.return_, 1) := by decide +kernel
theorem dX3_copyForcesFrom_0 : decode cX3_copyForcesFrom 0 = .ok (.aload_n 1, 1) := by decide +kernel
theorem dX3_copyForcesFrom_1 : decode cX3_copyForcesFrom 1 = .ok (.getfield 9, 3) := by decide +kernel
theorem dX3_copyForcesFrom_4 : decode cX3_copyForcesFrom 4 = .ok (.iconst 0, 1) := by decide +kernel
theorem dX3_copyForcesFrom_5 : decode cX3_copyForcesFrom 5 = .ok (.aload_n 0, 1) := by decide +kernel
theorem dX3_copyForcesFrom_6 : decode cX3_copyForcesFrom 6 = .ok (.getfield 9, 3) := by decide +kernel
theorem dX3_copyForcesFrom_9 : decode cX3_copyForcesFrom 9 = .ok (.iconst 0, 1) := by decide +kernel
theorem dX3_copyForcesFrom_10 : decode cX3_copyForcesFrom 10 = .ok (.iconst 4, 1) := by decide +kernel
theorem dX3_copyForcesFrom_11 : decode cX3_copyForcesFrom 11 = .ok (.invokestatic 59, 3) := by decide +kernel
theorem dX3_copyForcesFrom_14 : decode cX3_copyForcesFrom 14 = .ok (.aload_n 1, 1) := by decide +kernel
theorem dX3_copyForcesFrom_15 : decode cX3_copyForcesFrom 15 = .ok (.getfield 15, 3) := by decide +kernel
theorem dX3_copyForcesFrom_18 : decode cX3_copyForcesFrom 18 = .ok (.iconst 0, 1) := by decide +kernel
theorem dX3_copyForcesFrom_19 : decode cX3_copyForcesFrom 19 = .ok (.aload_n 0, 1) := by decide +kernel
theorem dX3_copyForcesFrom_20 : decode cX3_copyForcesFrom 20 = .ok (.getfield 15, 3) := by decide +kernel
theorem dX3_copyForcesFrom_23 : decode cX3_copyForcesFrom 23 = .ok (.iconst 0, 1) := by decide +kernel
theorem dX3_copyForcesFrom_24 : decode cX3_copyForcesFrom 24 = .ok (.iconst 4, 1) := by decide +kernel
theorem dX3_copyForcesFrom_25 : decode cX3_copyForcesFrom 25 = .ok (.invokestatic 59, 3) := by decide +kernel
theorem dX3_copyForcesFrom_28 : decode cX3_copyForcesFrom 28 = .ok (.aload_n 1, 1) := by decide +kernel
theorem dX3_copyForcesFrom_29 : decode cX3_copyForcesFrom 29 = .ok (.getfield 24, 3) := by decide +kernel
theorem dX3_copyForcesFrom_32 : decode cX3_copyForcesFrom 32 = .ok (.iconst 0, 1) := by decide +kernel
theorem dX3_copyForcesFrom_33 : decode cX3_copyForcesFrom 33 = .ok (.aload_n 0, 1) := by decide +kernel
theorem dX3_copyForcesFrom_34 : decode cX3_copyForcesFrom 34 = .ok (.getfield 24, 3) := by decide +kernel
theorem dX3_copyForcesFrom_37 : decode cX3_copyForcesFrom 37 = .ok (.iconst 0, 1) := by decide +kernel
theorem dX3_copyForcesFrom_38 : decode cX3_copyForcesFrom 38 = .ok (.iconst 4, 1) := by decide +kernel
theorem dX3_copyForcesFrom_39 : decode cX3_copyForcesFrom 39 = .ok (.invokestatic 59, 3) := by decide +kernel
theorem dX3_copyForcesFrom_42 : decode cX3_copyForcesFrom 42 = .ok (.aload_n 1, 1) := by decide +kernel
theorem dX3_copyForcesFrom_43 : decode cX3_copyForcesFrom 43 = .ok (.getfield 27, 3) := by decide +kernel
theorem dX3_copyForcesFrom_46 : decode cX3_copyForcesFrom 46 = .ok (.iconst 0, 1) := by decide +kernel
theorem dX3_copyForcesFrom_47 : decode cX3_copyForcesFrom 47 = .ok (.aload_n 0, 1) := by decide +kernel
theorem dX3_copyForcesFrom_48 : decode cX3_copyForcesFrom 48 = .ok (.getfield 27, 3) := by decide +kernel
theorem dX3_copyForcesFrom_51 : decode cX3_copyForcesFrom 51 = .ok (.iconst 0, 1) := by decide +kernel
theorem dX3_copyForcesFrom_52 : decode cX3_copyForcesFrom 52 = .ok (.iconst 4, 1) := by decide +kernel
theorem dX3_copyForcesFrom_53 : decode cX3_copyForcesFrom 53 = .ok (.invokestatic 59, 3) := by decide +kernel
theorem dX3_copyForcesFrom_56 : decode cX3_copyForcesFrom 56 = .ok (.aload_n 0, 1) := by decide +kernel
theorem dX3_copyForcesFrom_57 : decode cX3_copyForcesFrom 57 = .ok (.aload_n 1, 1) := by decide +kernel
theorem dX3_copyForcesFrom_58 : decode cX3_copyForcesFrom 58 = .ok (.getfield 47, 3) := by decide +kernel
theorem dX3_copyForcesFrom_61 : decode cX3_copyForcesFrom 61 = .ok (.putfield 47, 3) := by decide +kernel
theorem dX3_copyForcesFrom_64 : decode cX3_copyForcesFrom 64 = .ok (.return_, 1) := by decide +kernel
theorem dX3_addDrop_0 : decode cX3_addDrop 0 = .ok (.aload_n 0, 1) := by decide +kernel
theorem dX3_addDrop_1 : decode cX3_addDrop 1 = .ok (.getfield 47, 3) := by decide +kernel
theorem dX3_addDrop_4 : decode cX3_addDrop 4 = .ok (.iconst 4, 1) := by decide +kernel
theorem dX3_addDrop_5 : decode cX3_addDrop 5 = .ok (.if_icmp .ge 33, 3) := by decide +kernel
theorem dX3_addDrop_8 : decode cX3_addDrop 8 = .ok (.aload_n 0, 1) := by decide +kernel
theorem dX3_addDrop_9 : decode cX3_addDrop 9 = .ok (.getfield 24, 3) := by decide +kernel
theorem dX3_addDrop_12 : decode cX3_addDrop 12 = .ok (.aload_n 0, 1) := by decide +kernel
theorem dX3_addDrop_13 : decode cX3_addDrop 13 = .ok (.getfield 47, 3) := by decide +kernel
theorem dX3_addDrop_16 : decode cX3_addDrop 16 = .ok (.iload_n 1, 1) := by decide +kernel
theorem dX3_addDrop_17 : decode cX3_addDrop 17 = .ok (.iastore, 1) := by decide +kernel
theorem dX3_addDrop_18 : decode cX3_addDrop 18 = .ok (.aload_n 0, 1) := by decide +kernel
theorem dX3_addDrop_19 : decode cX3_addDrop 19 = .ok (.getfield 27, 3) := by decide +kernel
theorem dX3_addDrop_22 : decode cX3_addDrop 22 = .ok (.aload_n 0, 1) := by decide +kernel
theorem dX3_addDrop_23 : decode cX3_addDrop 23 = .ok (.getfield 47, 3) := by decide +kernel
theorem dX3_addDrop_26 : decode cX3_addDrop 26 = .ok (.iload_n 2, 1) := by decide +kernel
theorem dX3_addDrop_27 : decode cX3_addDrop 27 = .ok (.iastore, 1) := by decide +kernel
theorem dX3_addDrop_28 : decode cX3_addDrop 28 = .ok (.aload_n 0, 1) := by decide +kernel
theorem dX3_addDrop_29 : decode cX3_addDrop 29 = .ok (.dup, 1) := by decide +kernel
theorem dX3_addDrop_30 : decode cX3_addDrop 30 = .ok (.getfield 47, 3) := by decide +kernel
theorem dX3_addDrop_33 : decode cX3_addDrop 33 = .ok (.iconst 1, 1) := by decide +kernel
theorem dX3_addDrop_34 : decode cX3_addDrop 34 = .ok (.iadd, 1) := by decide +kernel
theorem dX3_addDrop_35 : decode cX3_addDrop 35 = .ok (.putfield 47, 3) := by decide +kernel
theorem dX3_addDrop_38 : decode cX3_addDrop 38 = .ok (.return_, 1) := by decide +kernel
theorem dX3_isSet_0 : decode cX3_isSet 0 = .ok (.aload_n 0, 1) := by decide +kernel
theorem dX3_isSet_1 : decode cX3_isSet 1 = .ok (.getfield 50, 3) := by decide +kernel
theorem dX3_isSet_4 : decode cX3_isSet 4 = .ok (.iload_n 1, 1) := by decide +kernel
theorem dX3_isSet_5 : decode cX3_isSet 5 = .ok (.ishr, 1) := by decide +kernel
theorem dX3_isSet_6 : decode cX3_isSet 6 = .ok (.iconst 1, 1) := by decide +kernel
theorem dX3_isSet_7 : decode cX3_isSet 7 = .ok (.iand, 1) := by decide +kernel
theorem dX3_isSet_8 : decode cX3_isSet 8 = .ok (.ifCond .eq 7, 3) := by decide +kernel
theorem dX3_isSet_11 : decode cX3_isSet 11 = .ok (.iconst 1, 1) := by decide +kernel
theorem dX3_isSet_12 : decode cX3_isSet 12 = .ok (.goto 4, 3) := by decide +kernel
theorem dX3_isSet_15 : decode cX3_isSet 15 = .ok (.iconst 0, 1) := by decide +kernel
theorem dX3_isSet_16 : decode cX3_isSet 16 = .ok (.ireturn, 1) := by decide +kernel
theorem dX3_forceAt_0 : decode cX3_forceAt 0 = .ok (.iconst 0, 1) := by decide +kernel
theorem dX3_forceAt_1 : decode cX3_forceAt 1 = .ok (.istore_n 2, 1) := by decide +kernel
theorem dX3_forceAt_2 : decode cX3_forceAt 2 = .ok (.iconst 0, 1) := by decide +kernel
theorem dX3_forceAt_3 : decode cX3_forceAt 3 = .ok (.istore_n 3, 1) := by decide +kernel
theorem dX3_forceAt_4 : decode cX3_forceAt 4 = .ok (.iload_n 3, 1) := by decide +kernel
theorem dX3_forceAt_5 : decode cX3_forceAt 5 = .ok (.iconst 4, 1) := by decide +kernel
theorem dX3_forceAt_6 : decode cX3_forceAt 6 = .ok (.if_icmp .ge 37, 3) := by decide +kernel
theorem dX3_forceAt_9 : decode cX3_forceAt 9 = .ok (.aload_n 0, 1) := by decide +kernel
theorem dX3_forceAt_10 : decode cX3_forceAt 10 = .ok (.getfield 9, 3) := by decide +kernel
theorem dX3_forceAt_13 : decode cX3_forceAt 13 = .ok (.iload_n 3, 1) := by decide +kernel
theorem dX3_forceAt_14 : decode cX3_forceAt 14 = .ok (.iaload, 1) := by decide +kernel
theorem dX3_forceAt_15 : decode cX3_forceAt 15 = .ok (.ifCond .le 22, 3) := by decide +kernel
theorem dX3_forceAt_18 : decode cX3_forceAt 18 = .ok (.iload_n 2, 1) := by decide +kernel
theorem dX3_forceAt_19 : decode cX3_forceAt 19 = .ok (.aload_n 0, 1) := by decide +kernel
theorem dX3_forceAt_20 : decode cX3_forceAt 20 = .ok (.getfield 9, 3) := by decide +kernel
theorem dX3_forceAt_23 : decode cX3_forceAt 23 = .ok (.iload_n 3, 1) := by decide +kernel
theorem dX3_forceAt_24 : decode cX3_forceAt 24 = .ok (.iaload, 1) := by decide +kernel
theorem dX3_forceAt_25 : decode cX3_forceAt 25 = .ok (.aload_n 0, 1) := by decide +kernel
theorem dX3_forceAt_26 : decode cX3_forceAt 26 = .ok (.getfield 15, 3) := by decide +kernel
theorem dX3_forceAt_29 : decode cX3_forceAt 29 = .ok (.iload_n 3, 1) := by decide +kernel
theorem dX3_forceAt_30 : decode cX3_forceAt 30 = .ok (.iaload, 1) := by decide +kernel
theorem dX3_forceAt_31 : decode cX3_forceAt 31 = .ok (.iload_n 1, 1) := by decide +kernel
theorem dX3_forceAt_32 : decode cX3_forceAt 32 = .ok (.invokestatic 73, 3) := by decide +kernel
theorem dX3_forceAt_35 : decode cX3_forceAt 35 = .ok (.iadd, 1) := by decide +kernel
theorem dX3_forceAt_36 : decode cX3_forceAt 36 = .ok (.istore_n 2, 1) := by decide +kernel
theorem dX3_forceAt_37 : decode cX3_forceAt 37 = .ok (.iinc 3 1, 3) := by decide +kernel
theorem dX3_forceAt_40 : decode cX3_forceAt 40 = .ok (.goto (-36), 3) := by decide +kernel
theorem dX3_forceAt_43 : decode cX3_forceAt 43 = .ok (.iconst 0, 1) := by decide +kernel
theorem dX3_forceAt_44 : decode cX3_forceAt 44 = .ok (.istore_n 3, 1) := by decide +kernel
theorem dX3_forceAt_45 : decode cX3_forceAt 45 = .ok (.iload_n 3, 1) := by decide +kernel
theorem dX3_forceAt_46 : decode cX3_forceAt 46 = .ok (.aload_n 0, 1) := by decide +kernel
theorem dX3_forceAt_47 : decode cX3_forceAt 47 = .ok (.getfield 47, 3) := by decide +kernel
theorem dX3_forceAt_50 : decode cX3_forceAt 50 = .ok (.if_icmp .ge 28, 3) := by decide +kernel
theorem dX3_forceAt_53 : decode cX3_forceAt 53 = .ok (.iload_n 2, 1) := by decide +kernel
theorem dX3_forceAt_54 : decode cX3_forceAt 54 = .ok (.aload_n 0, 1) := by decide +kernel
theorem dX3_forceAt_55 : decode cX3_forceAt 55 = .ok (.getfield 24, 3) := by decide +kernel
theorem dX3_forceAt_58 : decode cX3_forceAt 58 = .ok (.iload_n 3, 1) := by decide +kernel
theorem dX3_forceAt_59 : decode cX3_forceAt 59 = .ok (.iaload, 1) := by decide +kernel
theorem dX3_forceAt_60 : decode cX3_forceAt 60 = .ok (.aload_n 0, 1) := by decide +kernel
theorem dX3_forceAt_61 : decode cX3_forceAt 61 = .ok (.getfield 27, 3) := by decide +kernel
theorem dX3_forceAt_64 : decode cX3_forceAt 64 = .ok (.iload_n 3, 1) := by decide +kernel
theorem dX3_forceAt_65 : decode cX3_forceAt 65 = .ok (.iaload, 1) := by decide +kernel
theorem dX3_forceAt_66 : decode cX3_forceAt 66 = .ok (.iload_n 1, 1) := by decide +kernel
theorem dX3_forceAt_67 : decode cX3_forceAt 67 = .ok (.invokestatic 73, 3) := by decide +kernel
theorem dX3_forceAt_70 : decode cX3_forceAt 70 = .ok (.iadd, 1) := by decide +kernel
theorem dX3_forceAt_71 : decode cX3_forceAt 71 = .ok (.istore_n 2, 1) := by decide +kernel
theorem dX3_forceAt_72 : decode cX3_forceAt 72 = .ok (.iinc 3 1, 3) := by decide +kernel
theorem dX3_forceAt_75 : decode cX3_forceAt 75 = .ok (.goto (-30), 3) := by decide +kernel
theorem dX3_forceAt_78 : decode cX3_forceAt 78 = .ok (.iload_n 2, 1) := by decide +kernel
theorem dX3_forceAt_79 : decode cX3_forceAt 79 = .ok (.ireturn, 1) := by decide +kernel
theorem dX3_reach_0 : decode cX3_reach 0 = .ok (.iload_n 0, 1) := by decide +kernel
theorem dX3_reach_1 : decode cX3_reach 1 = .ok (.iconst 2, 1) := by decide +kernel
theorem dX3_reach_2 : decode cX3_reach 2 = .ok (.iload_n 1, 1) := by decide +kernel
theorem dX3_reach_3 : decode cX3_reach 3 = .ok (.iload_n 2, 1) := by decide +kernel
theorem dX3_reach_4 : decode cX3_reach 4 = .ok (.if_icmp .ge 9, 3) := by decide +kernel
theorem dX3_reach_7 : decode cX3_reach 7 = .ok (.iload_n 2, 1) := by decide +kernel
theorem dX3_reach_8 : decode cX3_reach 8 = .ok (.iload_n 1, 1) := by decide +kernel
theorem dX3_reach_9 : decode cX3_reach 9 = .ok (.isub, 1) := by decide +kernel
theorem dX3_reach_10 : decode cX3_reach 10 = .ok (.goto 6, 3) := by decide +kernel
theorem dX3_reach_13 : decode cX3_reach 13 = .ok (.iload_n 1, 1) := by decide +kernel
theorem dX3_reach_14 : decode cX3_reach 14 = .ok (.iload_n 2, 1) := by decide +kernel
theorem dX3_reach_15 : decode cX3_reach 15 = .ok (.isub, 1) := by decide +kernel
theorem dX3_reach_16 : decode cX3_reach 16 = .ok (.imul, 1) := by decide +kernel
theorem dX3_reach_17 : decode cX3_reach 17 = .ok (.isub, 1) := by decide +kernel
theorem dX3_reach_18 : decode cX3_reach 18 = .ok (.istore_n 3, 1) := by decide +kernel
theorem dX3_reach_19 : decode cX3_reach 19 = .ok (.iload_n 3, 1) := by decide +kernel
theorem dX3_reach_20 : decode cX3_reach 20 = .ok (.ifCond .le 7, 3) := by decide +kernel
theorem dX3_reach_23 : decode cX3_reach 23 = .ok (.iload_n 3, 1) := by decide +kernel
theorem dX3_reach_24 : decode cX3_reach 24 = .ok (.goto 4, 3) := by decide +kernel
theorem dX3_reach_27 : decode cX3_reach 27 = .ok (.iconst 0, 1) := by decide +kernel
theorem dX3_reach_28 : decode cX3_reach 28 = .ok (.ireturn, 1) := by decide +kernel
theorem dX3_allGrudges_0 : decode cX3_allGrudges 0 = .ok (.aload_n 0, 1) := by decide +kernel
theorem dX3_allGrudges_1 : decode cX3_allGrudges 1 = .ok (.getfield 9, 3) := by decide +kernel
theorem dX3_allGrudges_4 : decode cX3_allGrudges 4 = .ok (.invokestatic 77, 3) := by decide +kernel
theorem dX3_allGrudges_7 : decode cX3_allGrudges 7 = .ok (.ireturn, 1) := by decide +kernel
theorem dX3_allSlights_0 : decode cX3_allSlights 0 = .ok (.aload_n 0, 1) := by decide +kernel
theorem dX3_allSlights_1 : decode cX3_allSlights 1 = .ok (.getfield 18, 3) := by decide +kernel
theorem dX3_allSlights_4 : decode cX3_allSlights 4 = .ok (.invokestatic 77, 3) := by decide +kernel
theorem dX3_allSlights_7 : decode cX3_allSlights 7 = .ok (.ireturn, 1) := by decide +kernel
theorem dX3_sumOf_0 : decode cX3_sumOf 0 = .ok (.iconst 0, 1) := by decide +kernel
theorem dX3_sumOf_1 : decode cX3_sumOf 1 = .ok (.istore_n 1, 1) := by decide +kernel
theorem dX3_sumOf_2 : decode cX3_sumOf 2 = .ok (.aload_n 0, 1) := by decide +kernel
theorem dX3_sumOf_3 : decode cX3_sumOf 3 = .ok (.astore_n 2, 1) := by decide +kernel
theorem dX3_sumOf_4 : decode cX3_sumOf 4 = .ok (.aload_n 2, 1) := by decide +kernel
theorem dX3_sumOf_5 : decode cX3_sumOf 5 = .ok (.arraylength, 1) := by decide +kernel
theorem dX3_sumOf_6 : decode cX3_sumOf 6 = .ok (.istore_n 3, 1) := by decide +kernel
theorem dX3_sumOf_7 : decode cX3_sumOf 7 = .ok (.iconst 0, 1) := by decide +kernel
theorem dX3_sumOf_8 : decode cX3_sumOf 8 = .ok (.istore 4, 2) := by decide +kernel
theorem dX3_sumOf_10 : decode cX3_sumOf 10 = .ok (.iload 4, 2) := by decide +kernel
theorem dX3_sumOf_12 : decode cX3_sumOf 12 = .ok (.iload_n 3, 1) := by decide +kernel
theorem dX3_sumOf_13 : decode cX3_sumOf 13 = .ok (.if_icmp .ge 20, 3) := by decide +kernel
theorem dX3_sumOf_16 : decode cX3_sumOf 16 = .ok (.aload_n 2, 1) := by decide +kernel
theorem dX3_sumOf_17 : decode cX3_sumOf 17 = .ok (.iload 4, 2) := by decide +kernel
theorem dX3_sumOf_19 : decode cX3_sumOf 19 = .ok (.iaload, 1) := by decide +kernel
theorem dX3_sumOf_20 : decode cX3_sumOf 20 = .ok (.istore 5, 2) := by decide +kernel
theorem dX3_sumOf_22 : decode cX3_sumOf 22 = .ok (.iload_n 1, 1) := by decide +kernel
theorem dX3_sumOf_23 : decode cX3_sumOf 23 = .ok (.iload 5, 2) := by decide +kernel
theorem dX3_sumOf_25 : decode cX3_sumOf 25 = .ok (.iadd, 1) := by decide +kernel
theorem dX3_sumOf_26 : decode cX3_sumOf 26 = .ok (.istore_n 1, 1) := by decide +kernel
theorem dX3_sumOf_27 : decode cX3_sumOf 27 = .ok (.iinc 4 1, 3) := by decide +kernel
theorem dX3_sumOf_30 : decode cX3_sumOf 30 = .ok (.goto (-20), 3) := by decide +kernel
theorem dX3_sumOf_33 : decode cX3_sumOf 33 = .ok (.iload_n 1, 1) := by decide +kernel
theorem dX3_sumOf_34 : decode cX3_sumOf 34 = .ok (.ireturn, 1) := by decide +kernel
theorem dX3_fullBottles_0 : decode cX3_fullBottles 0 = .ok (.iconst 0, 1) := by decide +kernel
theorem dX3_fullBottles_1 : decode cX3_fullBottles 1 = .ok (.istore_n 1, 1) := by decide +kernel
theorem dX3_fullBottles_2 : decode cX3_fullBottles 2 = .ok (.iconst 0, 1) := by decide +kernel
theorem dX3_fullBottles_3 : decode cX3_fullBottles 3 = .ok (.istore_n 2, 1) := by decide +kernel
theorem dX3_fullBottles_4 : decode cX3_fullBottles 4 = .ok (.iload_n 2, 1) := by decide +kernel
theorem dX3_fullBottles_5 : decode cX3_fullBottles 5 = .ok (.iconst 4, 1) := by decide +kernel
theorem dX3_fullBottles_6 : decode cX3_fullBottles 6 = .ok (.if_icmp .ge 24, 3) := by decide +kernel
theorem dX3_fullBottles_9 : decode cX3_fullBottles 9 = .ok (.aload_n 0, 1) := by decide +kernel
theorem dX3_fullBottles_10 : decode cX3_fullBottles 10 = .ok (.getfield 21, 3) := by decide +kernel
theorem dX3_fullBottles_13 : decode cX3_fullBottles 13 = .ok (.iload_n 2, 1) := by decide +kernel
theorem dX3_fullBottles_14 : decode cX3_fullBottles 14 = .ok (.iaload, 1) := by decide +kernel
theorem dX3_fullBottles_15 : decode cX3_fullBottles 15 = .ok (.ifCond .le 9, 3) := by decide +kernel
theorem dX3_fullBottles_18 : decode cX3_fullBottles 18 = .ok (.iload_n 1, 1) := by decide +kernel
theorem dX3_fullBottles_19 : decode cX3_fullBottles 19 = .ok (.iconst 1, 1) := by decide +kernel
theorem dX3_fullBottles_20 : decode cX3_fullBottles 20 = .ok (.iload_n 2, 1) := by decide +kernel
theorem dX3_fullBottles_21 : decode cX3_fullBottles 21 = .ok (.ishl, 1) := by decide +kernel
theorem dX3_fullBottles_22 : decode cX3_fullBottles 22 = .ok (.ior, 1) := by decide +kernel
theorem dX3_fullBottles_23 : decode cX3_fullBottles 23 = .ok (.istore_n 1, 1) := by decide +kernel
theorem dX3_fullBottles_24 : decode cX3_fullBottles 24 = .ok (.iinc 2 1, 3) := by decide +kernel
theorem dX3_fullBottles_27 : decode cX3_fullBottles 27 = .ok (.goto (-23), 3) := by decide +kernel
theorem dX3_fullBottles_30 : decode cX3_fullBottles 30 = .ok (.iload_n 1, 1) := by decide +kernel
theorem dX3_fullBottles_31 : decode cX3_fullBottles 31 = .ok (.ireturn, 1) := by decide +kernel
theorem dX3_bottlesWorth_0 : decode cX3_bottlesWorth 0 = .ok (.aload_n 0, 1) := by decide +kernel
theorem dX3_bottlesWorth_1 : decode cX3_bottlesWorth 1 = .ok (.invokevirtual 81, 3) := by decide +kernel
theorem dX3_bottlesWorth_4 : decode cX3_bottlesWorth 4 = .ok (.istore_n 2, 1) := by decide +kernel
theorem dX3_bottlesWorth_5 : decode cX3_bottlesWorth 5 = .ok (.iconst (-1), 1) := by decide +kernel
theorem dX3_bottlesWorth_6 : decode cX3_bottlesWorth 6 = .ok (.istore_n 3, 1) := by decide +kernel
theorem dX3_bottlesWorth_7 : decode cX3_bottlesWorth 7 = .ok (.iconst 0, 1) := by decide +kernel
theorem dX3_bottlesWorth_8 : decode cX3_bottlesWorth 8 = .ok (.istore 4, 2) := by decide +kernel
theorem dX3_bottlesWorth_10 : decode cX3_bottlesWorth 10 = .ok (.iconst 1, 1) := by decide +kernel
theorem dX3_bottlesWorth_11 : decode cX3_bottlesWorth 11 = .ok (.istore 5, 2) := by decide +kernel
theorem dX3_bottlesWorth_13 : decode cX3_bottlesWorth 13 = .ok (.iload 5, 2) := by decide +kernel
theorem dX3_bottlesWorth_15 : decode cX3_bottlesWorth 15 = .ok (.iload_n 2, 1) := by decide +kernel
theorem dX3_bottlesWorth_16 : decode cX3_bottlesWorth 16 = .ok (.if_icmp .gt 65, 3) := by decide +kernel
theorem dX3_bottlesWorth_19 : decode cX3_bottlesWorth 19 = .ok (.aload_n 0, 1) := by decide +kernel
theorem dX3_bottlesWorth_20 : decode cX3_bottlesWorth 20 = .ok (.iload 5, 2) := by decide +kernel
theorem dX3_bottlesWorth_22 : decode cX3_bottlesWorth 22 = .ok (.invokevirtual 85, 3) := by decide +kernel
theorem dX3_bottlesWorth_25 : decode cX3_bottlesWorth 25 = .ok (.istore 6, 2) := by decide +kernel
theorem dX3_bottlesWorth_27 : decode cX3_bottlesWorth 27 = .ok (.sipush 1000, 3) := by decide +kernel
theorem dX3_bottlesWorth_30 : decode cX3_bottlesWorth 30 = .ok (.iload 5, 2) := by decide +kernel
theorem dX3_bottlesWorth_32 : decode cX3_bottlesWorth 32 = .ok (.invokestatic 89, 3) := by decide +kernel
theorem dX3_bottlesWorth_35 : decode cX3_bottlesWorth 35 = .ok (.imul, 1) := by decide +kernel
theorem dX3_bottlesWorth_36 : decode cX3_bottlesWorth 36 = .ok (.iload 6, 2) := by decide +kernel
theorem dX3_bottlesWorth_38 : decode cX3_bottlesWorth 38 = .ok (.iadd, 1) := by decide +kernel
theorem dX3_bottlesWorth_39 : decode cX3_bottlesWorth 39 = .ok (.istore 7, 2) := by decide +kernel
theorem dX3_bottlesWorth_41 : decode cX3_bottlesWorth 41 = .ok (.iload 5, 2) := by decide +kernel
theorem dX3_bottlesWorth_43 : decode cX3_bottlesWorth 43 = .ok (.iload_n 2, 1) := by decide +kernel
theorem dX3_bottlesWorth_44 : decode cX3_bottlesWorth 44 = .ok (.iconst (-1), 1) := by decide +kernel
theorem dX3_bottlesWorth_45 : decode cX3_bottlesWorth 45 = .ok (.ixor, 1) := by decide +kernel
theorem dX3_bottlesWorth_46 : decode cX3_bottlesWorth 46 = .ok (.iand, 1) := by decide +kernel
theorem dX3_bottlesWorth_47 : decode cX3_bottlesWorth 47 = .ok (.ifCond .ne 28, 3) := by decide +kernel
theorem dX3_bottlesWorth_50 : decode cX3_bottlesWorth 50 = .ok (.iload 6, 2) := by decide +kernel
theorem dX3_bottlesWorth_52 : decode cX3_bottlesWorth 52 = .ok (.iload_n 1, 1) := by decide +kernel
theorem dX3_bottlesWorth_53 : decode cX3_bottlesWorth 53 = .ok (.if_icmp .lt 22, 3) := by decide +kernel
theorem dX3_bottlesWorth_56 : decode cX3_bottlesWorth 56 = .ok (.iload_n 3, 1) := by decide +kernel
theorem dX3_bottlesWorth_57 : decode cX3_bottlesWorth 57 = .ok (.iconst (-1), 1) := by decide +kernel
theorem dX3_bottlesWorth_58 : decode cX3_bottlesWorth 58 = .ok (.if_icmp .eq 10, 3) := by decide +kernel
theorem dX3_bottlesWorth_61 : decode cX3_bottlesWorth 61 = .ok (.iload 7, 2) := by decide +kernel
theorem dX3_bottlesWorth_63 : decode cX3_bottlesWorth 63 = .ok (.iload 4, 2) := by decide +kernel
theorem dX3_bottlesWorth_65 : decode cX3_bottlesWorth 65 = .ok (.if_icmp .ge 10, 3) := by decide +kernel
theorem dX3_bottlesWorth_68 : decode cX3_bottlesWorth 68 = .ok (.iload 5, 2) := by decide +kernel
theorem dX3_bottlesWorth_70 : decode cX3_bottlesWorth 70 = .ok (.istore_n 3, 1) := by decide +kernel
theorem dX3_bottlesWorth_71 : decode cX3_bottlesWorth 71 = .ok (.iload 7, 2) := by decide +kernel
theorem dX3_bottlesWorth_73 : decode cX3_bottlesWorth 73 = .ok (.istore 4, 2) := by decide +kernel
theorem dX3_bottlesWorth_75 : decode cX3_bottlesWorth 75 = .ok (.iinc 5 1, 3) := by decide +kernel
theorem dX3_bottlesWorth_78 : decode cX3_bottlesWorth 78 = .ok (.goto (-65), 3) := by decide +kernel
theorem dX3_bottlesWorth_81 : decode cX3_bottlesWorth 81 = .ok (.iload_n 3, 1) := by decide +kernel
theorem dX3_bottlesWorth_82 : decode cX3_bottlesWorth 82 = .ok (.ireturn, 1) := by decide +kernel
theorem dX3_heldIn_0 : decode cX3_heldIn 0 = .ok (.iconst 0, 1) := by decide +kernel
theorem dX3_heldIn_1 : decode cX3_heldIn 1 = .ok (.istore_n 2, 1) := by decide +kernel
theorem dX3_heldIn_2 : decode cX3_heldIn 2 = .ok (.iconst 0, 1) := by decide +kernel
theorem dX3_heldIn_3 : decode cX3_heldIn 3 = .ok (.istore_n 3, 1) := by decide +kernel
theorem dX3_heldIn_4 : decode cX3_heldIn 4 = .ok (.iload_n 3, 1) := by decide +kernel
theorem dX3_heldIn_5 : decode cX3_heldIn 5 = .ok (.iconst 4, 1) := by decide +kernel
theorem dX3_heldIn_6 : decode cX3_heldIn 6 = .ok (.if_icmp .ge 26, 3) := by decide +kernel
theorem dX3_heldIn_9 : decode cX3_heldIn 9 = .ok (.iload_n 1, 1) := by decide +kernel
theorem dX3_heldIn_10 : decode cX3_heldIn 10 = .ok (.iload_n 3, 1) := by decide +kernel
theorem dX3_heldIn_11 : decode cX3_heldIn 11 = .ok (.ishr, 1) := by decide +kernel
theorem dX3_heldIn_12 : decode cX3_heldIn 12 = .ok (.iconst 1, 1) := by decide +kernel
theorem dX3_heldIn_13 : decode cX3_heldIn 13 = .ok (.iand, 1) := by decide +kernel
theorem dX3_heldIn_14 : decode cX3_heldIn 14 = .ok (.ifCond .eq 12, 3) := by decide +kernel
theorem dX3_heldIn_17 : decode cX3_heldIn 17 = .ok (.iload_n 2, 1) := by decide +kernel
theorem dX3_heldIn_18 : decode cX3_heldIn 18 = .ok (.aload_n 0, 1) := by decide +kernel
theorem dX3_heldIn_19 : decode cX3_heldIn 19 = .ok (.getfield 21, 3) := by decide +kernel
theorem dX3_heldIn_22 : decode cX3_heldIn 22 = .ok (.iload_n 3, 1) := by decide +kernel
theorem dX3_heldIn_23 : decode cX3_heldIn 23 = .ok (.iaload, 1) := by decide +kernel
theorem dX3_heldIn_24 : decode cX3_heldIn 24 = .ok (.iadd, 1) := by decide +kernel
theorem dX3_heldIn_25 : decode cX3_heldIn 25 = .ok (.istore_n 2, 1) := by decide +kernel
theorem dX3_heldIn_26 : decode cX3_heldIn 26 = .ok (.iinc 3 1, 3) := by decide +kernel
theorem dX3_heldIn_29 : decode cX3_heldIn 29 = .ok (.goto (-25), 3) := by decide +kernel
theorem dX3_heldIn_32 : decode cX3_heldIn 32 = .ok (.iload_n 2, 1) := by decide +kernel
theorem dX3_heldIn_33 : decode cX3_heldIn 33 = .ok (.ireturn, 1) := by decide +kernel
