theorem dX7_keep_2 : decode cX7_keep 2 = .ok (.invokevirtual 240, 3) := by decide +kernel
theorem dX7_keep_5 : decode cX7_keep 5 = .ok (.ifCond .eq 11, 3) := by decide +kernel
theorem dX7_keep_8 : decode cX7_keep 8 = .ok (.aload_n 0, 1) := by decide +kernel
theorem dX7_keep_9 : decode cX7_keep 9 = .ok (.iload_n 2, 1) := by decide +kernel
theorem dX7_keep_10 : decode cX7_keep 10 = .ok (.invokevirtual 188, 3) := by decide +kernel
theorem dX7_keep_13 : decode cX7_keep 13 = .ok (.ifCond .ne 6, 3) := by decide +kernel
theorem dX7_keep_16 : decode cX7_keep 16 = .ok (.bipush (-101), 2) := by decide +kernel
theorem dX7_keep_18 : decode cX7_keep 18 = .ok (.ireturn, 1) := by decide +kernel
theorem dX7_keep_19 : decode cX7_keep 19 = .ok (.aload_n 0, 1) := by decide +kernel
theorem dX7_keep_20 : decode cX7_keep 20 = .ok (.getfield 28, 3) := by decide +kernel
theorem dX7_keep_23 : decode cX7_keep 23 = .ok (.iload_n 1, 1) := by decide +kernel
theorem dX7_keep_24 : decode cX7_keep 24 = .ok (.iaload, 1) := by decide +kernel
theorem dX7_keep_25 : decode cX7_keep 25 = .ok (.ifCond .gt 12, 3) := by decide +kernel
theorem dX7_keep_28 : decode cX7_keep 28 = .ok (.aload_n 0, 1) := by decide +kernel
theorem dX7_keep_29 : decode cX7_keep 29 = .ok (.getfield 19, 3) := by decide +kernel
theorem dX7_keep_32 : decode cX7_keep 32 = .ok (.iload_n 2, 1) := by decide +kernel
theorem dX7_keep_33 : decode cX7_keep 33 = .ok (.iaload, 1) := by decide +kernel
theorem dX7_keep_34 : decode cX7_keep 34 = .ok (.ifCond .ne 6, 3) := by decide +kernel
theorem dX7_keep_37 : decode cX7_keep 37 = .ok (.bipush (-103), 2) := by decide +kernel
theorem dX7_keep_39 : decode cX7_keep 39 = .ok (.ireturn, 1) := by decide +kernel
theorem dX7_keep_40 : decode cX7_keep 40 = .ok (.aload_n 0, 1) := by decide +kernel
theorem dX7_keep_41 : decode cX7_keep 41 = .ok (.getfield 28, 3) := by decide +kernel
theorem dX7_keep_44 : decode cX7_keep 44 = .ok (.iload_n 1, 1) := by decide +kernel
theorem dX7_keep_45 : decode cX7_keep 45 = .ok (.aload_n 0, 1) := by decide +kernel
theorem dX7_keep_46 : decode cX7_keep 46 = .ok (.getfield 19, 3) := by decide +kernel
theorem dX7_keep_49 : decode cX7_keep 49 = .ok (.iload_n 2, 1) := by decide +kernel
theorem dX7_keep_50 : decode cX7_keep 50 = .ok (.iaload, 1) := by decide +kernel
theorem dX7_keep_51 : decode cX7_keep 51 = .ok (.iastore, 1) := by decide +kernel
theorem dX7_keep_52 : decode cX7_keep 52 = .ok (.aload_n 0, 1) := by decide +kernel
theorem dX7_keep_53 : decode cX7_keep 53 = .ok (.getfield 19, 3) := by decide +kernel
theorem dX7_keep_56 : decode cX7_keep 56 = .ok (.iload_n 2, 1) := by decide +kernel
theorem dX7_keep_57 : decode cX7_keep 57 = .ok (.iconst 0, 1) := by decide +kernel
theorem dX7_keep_58 : decode cX7_keep 58 = .ok (.iastore, 1) := by decide +kernel
theorem dX7_keep_59 : decode cX7_keep 59 = .ok (.aload_n 0, 1) := by decide +kernel
theorem dX7_keep_60 : decode cX7_keep 60 = .ok (.getfield 28, 3) := by decide +kernel
theorem dX7_keep_63 : decode cX7_keep 63 = .ok (.iload_n 1, 1) := by decide +kernel
theorem dX7_keep_64 : decode cX7_keep 64 = .ok (.iaload, 1) := by decide +kernel
theorem dX7_keep_65 : decode cX7_keep 65 = .ok (.ireturn, 1) := by decide +kernel
theorem dX7_pour_0 : decode cX7_pour 0 = .ok (.aload_n 0, 1) := by decide +kernel
theorem dX7_pour_1 : decode cX7_pour 1 = .ok (.iload_n 1, 1) := by decide +kernel
theorem dX7_pour_2 : decode cX7_pour 2 = .ok (.invokevirtual 240, 3) := by decide +kernel
theorem dX7_pour_5 : decode cX7_pour 5 = .ok (.ifCond .eq 11, 3) := by decide +kernel
theorem dX7_pour_8 : decode cX7_pour 8 = .ok (.aload_n 0, 1) := by decide +kernel
theorem dX7_pour_9 : decode cX7_pour 9 = .ok (.iload_n 2, 1) := by decide +kernel
theorem dX7_pour_10 : decode cX7_pour 10 = .ok (.invokevirtual 233, 3) := by decide +kernel
theorem dX7_pour_13 : decode cX7_pour 13 = .ok (.ifCond .ne 6, 3) := by decide +kernel
theorem dX7_pour_16 : decode cX7_pour 16 = .ok (.bipush (-101), 2) := by decide +kernel
theorem dX7_pour_18 : decode cX7_pour 18 = .ok (.ireturn, 1) := by decide +kernel
theorem dX7_pour_19 : decode cX7_pour 19 = .ok (.aload_n 0, 1) := by decide +kernel
theorem dX7_pour_20 : decode cX7_pour 20 = .ok (.getfield 28, 3) := by decide +kernel
theorem dX7_pour_23 : decode cX7_pour 23 = .ok (.iload_n 1, 1) := by decide +kernel
theorem dX7_pour_24 : decode cX7_pour 24 = .ok (.iaload, 1) := by decide +kernel
theorem dX7_pour_25 : decode cX7_pour 25 = .ok (.ifCond .ne 6, 3) := by decide +kernel
theorem dX7_pour_28 : decode cX7_pour 28 = .ok (.bipush (-103), 2) := by decide +kernel
theorem dX7_pour_30 : decode cX7_pour 30 = .ok (.ireturn, 1) := by decide +kernel
theorem dX7_pour_31 : decode cX7_pour 31 = .ok (.aload_n 0, 1) := by decide +kernel
theorem dX7_pour_32 : decode cX7_pour 32 = .ok (.getfield 124, 3) := by decide +kernel
theorem dX7_pour_35 : decode cX7_pour 35 = .ok (.iconst 4, 1) := by decide +kernel
theorem dX7_pour_36 : decode cX7_pour 36 = .ok (.if_icmp .ne 6, 3) := by decide +kernel
theorem dX7_pour_39 : decode cX7_pour 39 = .ok (.bipush (-104), 2) := by decide +kernel
theorem dX7_pour_41 : decode cX7_pour 41 = .ok (.ireturn, 1) := by decide +kernel
theorem dX7_pour_42 : decode cX7_pour 42 = .ok (.aload_n 0, 1) := by decide +kernel
theorem dX7_pour_43 : decode cX7_pour 43 = .ok (.getfield 28, 3) := by decide +kernel
theorem dX7_pour_46 : decode cX7_pour 46 = .ok (.iload_n 1, 1) := by decide +kernel
theorem dX7_pour_47 : decode cX7_pour 47 = .ok (.iaload, 1) := by decide +kernel
theorem dX7_pour_48 : decode cX7_pour 48 = .ok (.istore_n 3, 1) := by decide +kernel
theorem dX7_pour_49 : decode cX7_pour 49 = .ok (.aload_n 0, 1) := by decide +kernel
theorem dX7_pour_50 : decode cX7_pour 50 = .ok (.getfield 31, 3) := by decide +kernel
theorem dX7_pour_53 : decode cX7_pour 53 = .ok (.iconst 2, 1) := by decide +kernel
theorem dX7_pour_54 : decode cX7_pour 54 = .ok (.aload_n 0, 1) := by decide +kernel
theorem dX7_pour_55 : decode cX7_pour 55 = .ok (.getfield 124, 3) := by decide +kernel
theorem dX7_pour_58 : decode cX7_pour 58 = .ok (.imul, 1) := by decide +kernel
theorem dX7_pour_59 : decode cX7_pour 59 = .ok (.iload_n 3, 1) := by decide +kernel
theorem dX7_pour_60 : decode cX7_pour 60 = .ok (.iastore, 1) := by decide +kernel
theorem dX7_pour_61 : decode cX7_pour 61 = .ok (.aload_n 0, 1) := by decide +kernel
theorem dX7_pour_62 : decode cX7_pour 62 = .ok (.getfield 31, 3) := by decide +kernel
theorem dX7_pour_65 : decode cX7_pour 65 = .ok (.iconst 2, 1) := by decide +kernel
theorem dX7_pour_66 : decode cX7_pour 66 = .ok (.aload_n 0, 1) := by decide +kernel
theorem dX7_pour_67 : decode cX7_pour 67 = .ok (.getfield 124, 3) := by decide +kernel
theorem dX7_pour_70 : decode cX7_pour 70 = .ok (.imul, 1) := by decide +kernel
theorem dX7_pour_71 : decode cX7_pour 71 = .ok (.iconst 1, 1) := by decide +kernel
theorem dX7_pour_72 : decode cX7_pour 72 = .ok (.iadd, 1) := by decide +kernel
theorem dX7_pour_73 : decode cX7_pour 73 = .ok (.iload_n 2, 1) := by decide +kernel
theorem dX7_pour_74 : decode cX7_pour 74 = .ok (.iastore, 1) := by decide +kernel
theorem dX7_pour_75 : decode cX7_pour 75 = .ok (.aload_n 0, 1) := by decide +kernel
theorem dX7_pour_76 : decode cX7_pour 76 = .ok (.dup, 1) := by decide +kernel
theorem dX7_pour_77 : decode cX7_pour 77 = .ok (.getfield 124, 3) := by decide +kernel
theorem dX7_pour_80 : decode cX7_pour 80 = .ok (.iconst 1, 1) := by decide +kernel
theorem dX7_pour_81 : decode cX7_pour 81 = .ok (.iadd, 1) := by decide +kernel
theorem dX7_pour_82 : decode cX7_pour 82 = .ok (.putfield 124, 3) := by decide +kernel
theorem dX7_pour_85 : decode cX7_pour 85 = .ok (.aload_n 0, 1) := by decide +kernel
theorem dX7_pour_86 : decode cX7_pour 86 = .ok (.getfield 28, 3) := by decide +kernel
theorem dX7_pour_89 : decode cX7_pour 89 = .ok (.iload_n 1, 1) := by decide +kernel
theorem dX7_pour_90 : decode cX7_pour 90 = .ok (.iconst 0, 1) := by decide +kernel
theorem dX7_pour_91 : decode cX7_pour 91 = .ok (.iastore, 1) := by decide +kernel
theorem dX7_pour_92 : decode cX7_pour 92 = .ok (.iload_n 3, 1) := by decide +kernel
theorem dX7_pour_93 : decode cX7_pour 93 = .ok (.ireturn, 1) := by decide +kernel
theorem dX7_bottle_0 : decode cX7_bottle 0 = .ok (.aload_n 0, 1) := by decide +kernel
theorem dX7_bottle_1 : decode cX7_bottle 1 = .ok (.iload_n 1, 1) := by decide +kernel
theorem dX7_bottle_2 : decode cX7_bottle 2 = .ok (.invokevirtual 240, 3) := by decide +kernel
theorem dX7_bottle_5 : decode cX7_bottle 5 = .ok (.ifCond .eq 12, 3) := by decide +kernel
theorem dX7_bottle_8 : decode cX7_bottle 8 = .ok (.aload_n 0, 1) := by decide +kernel
theorem dX7_bottle_9 : decode cX7_bottle 9 = .ok (.getfield 28, 3) := by decide +kernel
theorem dX7_bottle_12 : decode cX7_bottle 12 = .ok (.iload_n 1, 1) := by decide +kernel
theorem dX7_bottle_13 : decode cX7_bottle 13 = .ok (.iaload, 1) := by decide +kernel
theorem dX7_bottle_14 : decode cX7_bottle 14 = .ok (.goto 5, 3) := by decide +kernel
theorem dX7_bottle_17 : decode cX7_bottle 17 = .ok (.bipush (-101), 2) := by decide +kernel
theorem dX7_bottle_19 : decode cX7_bottle 19 = .ok (.ireturn, 1) := by decide +kernel
theorem dX7_would_0 : decode cX7_would 0 = .ok (.aload_n 0, 1) := by decide +kernel
theorem dX7_would_1 : decode cX7_would 1 = .ok (.invokevirtual 133, 3) := by decide +kernel
theorem dX7_would_4 : decode cX7_would 4 = .ok (.ifCond .eq 8, 3) := by decide +kernel
theorem dX7_would_7 : decode cX7_would 7 = .ok (.bipush (-103), 2) := by decide +kernel
theorem dX7_would_9 : decode cX7_would 9 = .ok (.goto 7, 3) := by decide +kernel
theorem dX7_would_12 : decode cX7_would 12 = .ok (.aload_n 0, 1) := by decide +kernel
theorem dX7_would_13 : decode cX7_would 13 = .ok (.invokevirtual 166, 3) := by decide +kernel
theorem dX7_would_16 : decode cX7_would 16 = .ok (.ireturn, 1) := by decide +kernel
theorem dX7_isEnough_0 : decode cX7_isEnough 0 = .ok (.aload_n 0, 1) := by decide +kernel
theorem dX7_isEnough_1 : decode cX7_isEnough 1 = .ok (.getfield 19, 3) := by decide +kernel
theorem dX7_isEnough_4 : decode cX7_isEnough 4 = .ok (.aload_n 0, 1) := by decide +kernel
theorem dX7_isEnough_5 : decode cX7_isEnough 5 = .ok (.getfield 34, 3) := by decide +kernel
theorem dX7_isEnough_8 : decode cX7_isEnough 8 = .ok (.invokestatic 205, 3) := by decide +kernel
theorem dX7_isEnough_11 : decode cX7_isEnough 11 = .ok (.iconst 0, 1) := by decide +kernel
theorem dX7_isEnough_12 : decode cX7_isEnough 12 = .ok (.istore_n 3, 1) := by decide +kernel
theorem dX7_isEnough_13 : decode cX7_isEnough 13 = .ok (.iload_n 3, 1) := by decide +kernel
theorem dX7_isEnough_14 : decode cX7_isEnough 14 = .ok (.iload_n 2, 1) := by decide +kernel
theorem dX7_isEnough_15 : decode cX7_isEnough 15 = .ok (.if_icmp .ge 23, 3) := by decide +kernel
theorem dX7_isEnough_18 : decode cX7_isEnough 18 = .ok (.aload_n 0, 1) := by decide +kernel
theorem dX7_isEnough_19 : decode cX7_isEnough 19 = .ok (.aload_n 0, 1) := by decide +kernel
theorem dX7_isEnough_20 : decode cX7_isEnough 20 = .ok (.getfield 34, 3) := by decide +kernel
theorem dX7_isEnough_23 : decode cX7_isEnough 23 = .ok (.aload_n 0, 1) := by decide +kernel
theorem dX7_isEnough_24 : decode cX7_isEnough 24 = .ok (.getfield 37, 3) := by decide +kernel
theorem dX7_isEnough_27 : decode cX7_isEnough 27 = .ok (.iload_n 3, 1) := by decide +kernel
theorem dX7_isEnough_28 : decode cX7_isEnough 28 = .ok (.iaload, 1) := by decide +kernel
theorem dX7_isEnough_29 : decode cX7_isEnough 29 = .ok (.invokevirtual 209, 3) := by decide +kernel
theorem dX7_isEnough_32 : decode cX7_isEnough 32 = .ok (.iinc 3 1, 3) := by decide +kernel
theorem dX7_isEnough_35 : decode cX7_isEnough 35 = .ok (.goto (-22), 3) := by decide +kernel
theorem dX7_isEnough_38 : decode cX7_isEnough 38 = .ok (.iload_n 1, 1) := by decide +kernel
theorem dX7_isEnough_39 : decode cX7_isEnough 39 = .ok (.aload_n 0, 1) := by decide +kernel
theorem dX7_isEnough_40 : decode cX7_isEnough 40 = .ok (.aload_n 0, 1) := by decide +kernel
theorem dX7_isEnough_41 : decode cX7_isEnough 41 = .ok (.getfield 34, 3) := by decide +kernel
theorem dX7_isEnough_44 : decode cX7_isEnough 44 = .ok (.iconst 1, 1) := by decide +kernel
theorem dX7_isEnough_45 : decode cX7_isEnough 45 = .ok (.invokevirtual 162, 3) := by decide +kernel
theorem dX7_isEnough_48 : decode cX7_isEnough 48 = .ok (.iconst (-1), 1) := by decide +kernel
theorem dX7_isEnough_49 : decode cX7_isEnough 49 = .ok (.ixor, 1) := by decide +kernel
theorem dX7_isEnough_50 : decode cX7_isEnough 50 = .ok (.iand, 1) := by decide +kernel
theorem dX7_isEnough_51 : decode cX7_isEnough 51 = .ok (.ifCond .ne 7, 3) := by decide +kernel
theorem dX7_isEnough_54 : decode cX7_isEnough 54 = .ok (.iconst 1, 1) := by decide +kernel
theorem dX7_isEnough_55 : decode cX7_isEnough 55 = .ok (.goto 4, 3) := by decide +kernel
theorem dX7_isEnough_58 : decode cX7_isEnough 58 = .ok (.iconst 0, 1) := by decide +kernel
theorem dX7_isEnough_59 : decode cX7_isEnough 59 = .ok (.ireturn, 1) := by decide +kernel
theorem dX7_nextRow_0 : decode cX7_nextRow 0 = .ok (.iload_n 1, 1) := by decide +kernel
theorem dX7_nextRow_1 : decode cX7_nextRow 1 = .ok (.iconst 1, 1) := by decide +kernel
theorem dX7_nextRow_2 : decode cX7_nextRow 2 = .ok (.isub, 1) := by decide +kernel
theorem dX7_nextRow_3 : decode cX7_nextRow 3 = .ok (.istore_n 2, 1) := by decide +kernel
theorem dX7_nextRow_4 : decode cX7_nextRow 4 = .ok (.iload_n 2, 1) := by decide +kernel
theorem dX7_nextRow_5 : decode cX7_nextRow 5 = .ok (.ifCond .lt 26, 3) := by decide +kernel
theorem dX7_nextRow_8 : decode cX7_nextRow 8 = .ok (.aload_n 0, 1) := by decide +kernel
theorem dX7_nextRow_9 : decode cX7_nextRow 9 = .ok (.getfield 37, 3) := by decide +kernel
theorem dX7_nextRow_12 : decode cX7_nextRow 12 = .ok (.iload_n 2, 1) := by decide +kernel
theorem dX7_nextRow_13 : decode cX7_nextRow 13 = .ok (.iaload, 1) := by decide +kernel
theorem dX7_nextRow_14 : decode cX7_nextRow 14 = .ok (.iconst 3, 1) := by decide +kernel
theorem dX7_nextRow_15 : decode cX7_nextRow 15 = .ok (.aload_n 0, 1) := by decide +kernel
theorem dX7_nextRow_16 : decode cX7_nextRow 16 = .ok (.getfield 109, 3) := by decide +kernel
theorem dX7_nextRow_19 : decode cX7_nextRow 19 = .ok (.imul, 1) := by decide +kernel
theorem dX7_nextRow_20 : decode cX7_nextRow 20 = .ok (.iconst 1, 1) := by decide +kernel
theorem dX7_nextRow_21 : decode cX7_nextRow 21 = .ok (.isub, 1) := by decide +kernel
theorem dX7_nextRow_22 : decode cX7_nextRow 22 = .ok (.if_icmp .ne 9, 3) := by decide +kernel
theorem dX7_nextRow_25 : decode cX7_nextRow 25 = .ok (.iinc 2 (-1), 3) := by decide +kernel
theorem dX7_nextRow_28 : decode cX7_nextRow 28 = .ok (.goto (-24), 3) := by decide +kernel
theorem dX7_nextRow_31 : decode cX7_nextRow 31 = .ok (.iload_n 2, 1) := by decide +kernel
theorem dX7_nextRow_32 : decode cX7_nextRow 32 = .ok (.ifCond .ge 5, 3) := by decide +kernel
theorem dX7_nextRow_35 : decode cX7_nextRow 35 = .ok (.iconst 0, 1) := by decide +kernel
theorem dX7_nextRow_36 : decode cX7_nextRow 36 = .ok (.ireturn, 1) := by decide +kernel
theorem dX7_nextRow_37 : decode cX7_nextRow 37 = .ok (.aload_n 0, 1) := by decide +kernel
theorem dX7_nextRow_38 : decode cX7_nextRow 38 = .ok (.getfield 37, 3) := by decide +kernel
theorem dX7_nextRow_41 : decode cX7_nextRow 41 = .ok (.iload_n 2, 1) := by decide +kernel
theorem dX7_nextRow_42 : decode cX7_nextRow 42 = .ok (.dup2, 1) := by decide +kernel
theorem dX7_nextRow_43 : decode cX7_nextRow 43 = .ok (.iaload, 1) := by decide +kernel
theorem dX7_nextRow_44 : decode cX7_nextRow 44 = .ok (.iconst 1, 1) := by decide +kernel
theorem dX7_nextRow_45 : decode cX7_nextRow 45 = .ok (.iadd, 1) := by decide +kernel
theorem dX7_nextRow_46 : decode cX7_nextRow 46 = .ok (.iastore, 1) := by decide +kernel
theorem dX7_nextRow_47 : decode cX7_nextRow 47 = .ok (.iload_n 2, 1) := by decide +kernel
theorem dX7_nextRow_48 : decode cX7_nextRow 48 = .ok (.iconst 1, 1) := by decide +kernel
theorem dX7_nextRow_49 : decode cX7_nextRow 49 = .ok (.iadd, 1) := by decide +kernel
theorem dX7_nextRow_50 : decode cX7_nextRow 50 = .ok (.istore_n 3, 1) := by decide +kernel
theorem dX7_nextRow_51 : decode cX7_nextRow 51 = .ok (.iload_n 3, 1) := by decide +kernel
theorem dX7_nextRow_52 : decode cX7_nextRow 52 = .ok (.iload_n 1, 1) := by decide +kernel
theorem dX7_nextRow_53 : decode cX7_nextRow 53 = .ok (.if_icmp .ge 21, 3) := by decide +kernel
theorem dX7_nextRow_56 : decode cX7_nextRow 56 = .ok (.aload_n 0, 1) := by decide +kernel
theorem dX7_nextRow_57 : decode cX7_nextRow 57 = .ok (.getfield 37, 3) := by decide +kernel
theorem dX7_nextRow_60 : decode cX7_nextRow 60 = .ok (.iload_n 3, 1) := by decide +kernel
theorem dX7_nextRow_61 : decode cX7_nextRow 61 = .ok (.aload_n 0, 1) := by decide +kernel
theorem dX7_nextRow_62 : decode cX7_nextRow 62 = .ok (.getfield 37, 3) := by decide +kernel
theorem dX7_nextRow_65 : decode cX7_nextRow 65 = .ok (.iload_n 2, 1) := by decide +kernel
theorem dX7_nextRow_66 : decode cX7_nextRow 66 = .ok (.iaload, 1) := by decide +kernel
theorem dX7_nextRow_67 : decode cX7_nextRow 67 = .ok (.iastore, 1) := by decide +kernel
theorem dX7_nextRow_68 : decode cX7_nextRow 68 = .ok (.iinc 3 1, 3) := by decide +kernel
theorem dX7_nextRow_71 : decode cX7_nextRow 71 = .ok (.goto (-20), 3) := by decide +kernel
theorem dX7_nextRow_74 : decode cX7_nextRow 74 = .ok (.iconst 1, 1) := by decide +kernel
theorem dX7_nextRow_75 : decode cX7_nextRow 75 = .ok (.ireturn, 1) := by decide +kernel
theorem dX7_layFew_0 : decode cX7_layFew 0 = .ok (.iconst 0, 1) := by decide +kernel
theorem dX7_layFew_1 : decode cX7_layFew 1 = .ok (.istore_n 2, 1) := by decide +kernel
theorem dX7_layFew_2 : decode cX7_layFew 2 = .ok (.iload_n 2, 1) := by decide +kernel
theorem dX7_layFew_3 : decode cX7_layFew 3 = .ok (.iconst 4, 1) := by decide +kernel
theorem dX7_layFew_4 : decode cX7_layFew 4 = .ok (.if_icmp .ge 67, 3) := by decide +kernel
theorem dX7_layFew_7 : decode cX7_layFew 7 = .ok (.aload_n 0, 1) := by decide +kernel
theorem dX7_layFew_8 : decode cX7_layFew 8 = .ok (.getfield 37, 3) := by decide +kernel
theorem dX7_layFew_11 : decode cX7_layFew 11 = .ok (.iconst 0, 1) := by decide +kernel
theorem dX7_layFew_12 : decode cX7_layFew 12 = .ok (.iconst 0, 1) := by decide +kernel
theorem dX7_layFew_13 : decode cX7_layFew 13 = .ok (.iastore, 1) := by decide +kernel
theorem dX7_layFew_14 : decode cX7_layFew 14 = .ok (.aload_n 0, 1) := by decide +kernel
theorem dX7_layFew_15 : decode cX7_layFew 15 = .ok (.getfield 37, 3) := by decide +kernel
theorem dX7_layFew_18 : decode cX7_layFew 18 = .ok (.iconst 1, 1) := by decide +kernel
theorem dX7_layFew_19 : decode cX7_layFew 19 = .ok (.iconst 0, 1) := by decide +kernel
theorem dX7_layFew_20 : decode cX7_layFew 20 = .ok (.iastore, 1) := by decide +kernel
theorem dX7_layFew_21 : decode cX7_layFew 21 = .ok (.aload_n 0, 1) := by decide +kernel
theorem dX7_layFew_22 : decode cX7_layFew 22 = .ok (.getfield 37, 3) := by decide +kernel
theorem dX7_layFew_25 : decode cX7_layFew 25 = .ok (.iconst 2, 1) := by decide +kernel
theorem dX7_layFew_26 : decode cX7_layFew 26 = .ok (.iconst 0, 1) := by decide +kernel
theorem dX7_layFew_27 : decode cX7_layFew 27 = .ok (.iastore, 1) := by decide +kernel
theorem dX7_layFew_28 : decode cX7_layFew 28 = .ok (.iconst 1, 1) := by decide +kernel
theorem dX7_layFew_29 : decode cX7_layFew 29 = .ok (.istore_n 3, 1) := by decide +kernel
theorem dX7_layFew_30 : decode cX7_layFew 30 = .ok (.iload_n 3, 1) := by decide +kernel
theorem dX7_layFew_31 : decode cX7_layFew 31 = .ok (.ifCond .eq 34, 3) := by decide +kernel
theorem dX7_layFew_34 : decode cX7_layFew 34 = .ok (.aload_n 0, 1) := by decide +kernel
theorem dX7_layFew_35 : decode cX7_layFew 35 = .ok (.iload_n 1, 1) := by decide +kernel
theorem dX7_layFew_36 : decode cX7_layFew 36 = .ok (.iload_n 2, 1) := by decide +kernel
theorem dX7_layFew_37 : decode cX7_layFew 37 = .ok (.invokevirtual 243, 3) := by decide +kernel
theorem dX7_layFew_40 : decode cX7_layFew 40 = .ok (.ifCond .eq 16, 3) := by decide +kernel
theorem dX7_layFew_43 : decode cX7_layFew 43 = .ok (.aload_n 0, 1) := by decide +kernel
theorem dX7_layFew_44 : decode cX7_layFew 44 = .ok (.getfield 37, 3) := by decide +kernel
theorem dX7_layFew_47 : decode cX7_layFew 47 = .ok (.aload_n 0, 1) := by decide +kernel
theorem dX7_layFew_48 : decode cX7_layFew 48 = .ok (.getfield 40, 3) := by decide +kernel
theorem dX7_layFew_51 : decode cX7_layFew 51 = .ok (.invokestatic 205, 3) := by decide +kernel
theorem dX7_layFew_54 : decode cX7_layFew 54 = .ok (.iload_n 2, 1) := by decide +kernel
theorem dX7_layFew_55 : decode cX7_layFew 55 = .ok (.ireturn, 1) := by decide +kernel
theorem dX7_layFew_56 : decode cX7_layFew 56 = .ok (.aload_n 0, 1) := by decide +kernel
theorem dX7_layFew_57 : decode cX7_layFew 57 = .ok (.iload_n 2, 1) := by decide +kernel
theorem dX7_layFew_58 : decode cX7_layFew 58 = .ok (.invokevirtual 247, 3) := by decide +kernel
theorem dX7_layFew_61 : decode cX7_layFew 61 = .ok (.istore_n 3, 1) := by decide +kernel
theorem dX7_layFew_62 : decode cX7_layFew 62 = .ok (.goto (-32), 3) := by decide +kernel
theorem dX7_layFew_65 : decode cX7_layFew 65 = .ok (.iinc 2 1, 3) := by decide +kernel
theorem dX7_layFew_68 : decode cX7_layFew 68 = .ok (.goto (-66), 3) := by decide +kernel
theorem dX7_layFew_71 : decode cX7_layFew 71 = .ok (.iconst (-1), 1) := by decide +kernel
theorem dX7_layFew_72 : decode cX7_layFew 72 = .ok (.ireturn, 1) := by decide +kernel
theorem dX7_fewOf_0 : decode cX7_fewOf 0 = .ok (.aload_n 0, 1) := by decide +kernel
theorem dX7_fewOf_1 : decode cX7_fewOf 1 = .ok (.iload_n 1, 1) := by decide +kernel
theorem dX7_fewOf_2 : decode cX7_fewOf 2 = .ok (.invokevirtual 250, 3) := by decide +kernel
theorem dX7_fewOf_5 : decode cX7_fewOf 5 = .ok (.istore_n 3, 1) := by decide +kernel
theorem dX7_fewOf_6 : decode cX7_fewOf 6 = .ok (.iload_n 2, 1) := by decide +kernel
theorem dX7_fewOf_7 : decode cX7_fewOf 7 = .ok (.ifCond .ne 7, 3) := by decide +kernel
theorem dX7_fewOf_10 : decode cX7_fewOf 10 = .ok (.iload_n 3, 1) := by decide +kernel
theorem dX7_fewOf_11 : decode cX7_fewOf 11 = .ok (.goto 24, 3) := by decide +kernel
theorem dX7_fewOf_14 : decode cX7_fewOf 14 = .ok (.iload_n 2, 1) := by decide +kernel
theorem dX7_fewOf_15 : decode cX7_fewOf 15 = .ok (.bipush 10, 2) := by decide +kernel
theorem dX7_fewOf_17 : decode cX7_fewOf 17 = .ok (.isub, 1) := by decide +kernel
theorem dX7_fewOf_18 : decode cX7_fewOf 18 = .ok (.iload_n 3, 1) := by decide +kernel
theorem dX7_fewOf_19 : decode cX7_fewOf 19 = .ok (.if_icmp .ge 15, 3) := by decide +kernel
theorem dX7_fewOf_22 : decode cX7_fewOf 22 = .ok (.aload_n 0, 1) := by decide +kernel
theorem dX7_fewOf_23 : decode cX7_fewOf 23 = .ok (.getfield 40, 3) := by decide +kernel
theorem dX7_fewOf_26 : decode cX7_fewOf 26 = .ok (.iload_n 2, 1) := by decide +kernel
theorem dX7_fewOf_27 : decode cX7_fewOf 27 = .ok (.bipush 10, 2) := by decide +kernel
theorem dX7_fewOf_29 : decode cX7_fewOf 29 = .ok (.isub, 1) := by decide +kernel
theorem dX7_fewOf_30 : decode cX7_fewOf 30 = .ok (.iaload, 1) := by decide +kernel
theorem dX7_fewOf_31 : decode cX7_fewOf 31 = .ok (.goto 4, 3) := by decide +kernel
theorem dX7_fewOf_34 : decode cX7_fewOf 34 = .ok (.iconst (-1), 1) := by decide +kernel
theorem dX7_fewOf_35 : decode cX7_fewOf 35 = .ok (.ireturn, 1) := by decide +kernel
theorem dX7_few_0 : decode cX7_few 0 = .ok (.iload_n 1, 1) := by decide +kernel
theorem dX7_few_1 : decode cX7_few 1 = .ok (.i2l, 1) := by decide +kernel
theorem dX7_few_2 : decode cX7_few 2 = .ok (.lconst 1, 1) := by decide +kernel
theorem dX7_few_3 : decode cX7_few 3 = .ok (.iconst 1, 1) := by decide +kernel
theorem dX7_few_4 : decode cX7_few 4 = .ok (.aload_n 0, 1) := by decide +kernel
theorem dX7_few_5 : decode cX7_few 5 = .ok (.getfield 112, 3) := by decide +kernel
theorem dX7_few_8 : decode cX7_few 8 = .ok (.ishl, 1) := by decide +kernel
theorem dX7_few_9 : decode cX7_few 9 = .ok (.iconst 1, 1) := by decide +kernel
theorem dX7_few_10 : decode cX7_few 10 = .ok (.isub, 1) := by decide +kernel
theorem dX7_few_11 : decode cX7_few 11 = .ok (.i2l, 1) := by decide +kernel
theorem dX7_few_12 : decode cX7_few 12 = .ok (.invokestatic 76, 3) := by decide +kernel
theorem dX7_few_15 : decode cX7_few 15 = .ok (.ifCond .eq 21, 3) := by decide +kernel
theorem dX7_few_18 : decode cX7_few 18 = .ok (.iload_n 2, 1) := by decide +kernel
theorem dX7_few_19 : decode cX7_few 19 = .ok (.ifCond .eq 20, 3) := by decide +kernel
theorem dX7_few_22 : decode cX7_few 22 = .ok (.iload_n 2, 1) := by decide +kernel
theorem dX7_few_23 : decode cX7_few 23 = .ok (.i2l, 1) := by decide +kernel
theorem dX7_few_24 : decode cX7_few 24 = .ok (.ldc2_w 172, 3) := by decide +kernel
theorem dX7_few_27 : decode cX7_few 27 = .ok (.ldc2_w 174, 3) := by decide +kernel
theorem dX7_few_30 : decode cX7_few 30 = .ok (.invokestatic 76, 3) := by decide +kernel
theorem dX7_few_33 : decode cX7_few 33 = .ok (.ifCond .ne 6, 3) := by decide +kernel
theorem dX7_few_36 : decode cX7_few 36 = .ok (.bipush (-102), 2) := by decide +kernel
theorem dX7_few_38 : decode cX7_few 38 = .ok (.ireturn, 1) := by decide +kernel
theorem dX7_few_39 : decode cX7_few 39 = .ok (.aload_n 0, 1) := by decide +kernel
theorem dX7_few_40 : decode cX7_few 40 = .ok (.getfield 253, 3) := by decide +kernel
theorem dX7_few_43 : decode cX7_few 43 = .ok (.bipush 30, 2) := by decide +kernel
theorem dX7_few_45 : decode cX7_few 45 = .ok (.if_icmp .ne 6, 3) := by decide +kernel
theorem dX7_few_48 : decode cX7_few 48 = .ok (.bipush (-103), 2) := by decide +kernel
theorem dX7_few_50 : decode cX7_few 50 = .ok (.ireturn, 1) := by decide +kernel
theorem dX7_few_51 : decode cX7_few 51 = .ok (.aload_n 0, 1) := by decide +kernel
theorem dX7_few_52 : decode cX7_few 52 = .ok (.dup, 1) := by decide +kernel
theorem dX7_few_53 : decode cX7_few 53 = .ok (.getfield 253, 3) := by decide +kernel
theorem dX7_few_56 : decode cX7_few 56 = .ok (.iconst 1, 1) := by decide +kernel
theorem dX7_few_57 : decode cX7_few 57 = .ok (.iadd, 1) := by decide +kernel
theorem dX7_few_58 : decode cX7_few 58 = .ok (.putfield 253, 3) := by decide +kernel
theorem dX7_few_61 : decode cX7_few 61 = .ok (.aload_n 0, 1) := by decide +kernel
theorem dX7_few_62 : decode cX7_few 62 = .ok (.iload_n 1, 1) := by decide +kernel
theorem dX7_few_63 : decode cX7_few 63 = .ok (.iload_n 2, 1) := by decide +kernel
theorem dX7_few_64 : decode cX7_few 64 = .ok (.invokevirtual 256, 3) := by decide +kernel
theorem dX7_few_67 : decode cX7_few 67 = .ok (.ireturn, 1) := by decide +kernel
theorem dX7_settingBy_0 : decode cX7_settingBy 0 = .ok (.iconst 3, 1) := by decide +kernel
theorem dX7_settingBy_1 : decode cX7_settingBy 1 = .ok (.aload_n 0, 1) := by decide +kernel
theorem dX7_settingBy_2 : decode cX7_settingBy 2 = .ok (.getfield 109, 3) := by decide +kernel
theorem dX7_settingBy_5 : decode cX7_settingBy 5 = .ok (.imul, 1) := by decide +kernel
theorem dX7_settingBy_6 : decode cX7_settingBy 6 = .ok (.iconst 1, 1) := by decide +kernel
theorem dX7_settingBy_7 : decode cX7_settingBy 7 = .ok (.iadd, 1) := by decide +kernel
theorem dX7_settingBy_8 : decode cX7_settingBy 8 = .ok (.istore_n 3, 1) := by decide +kernel
theorem dX7_settingBy_9 : decode cX7_settingBy 9 = .ok (.iconst 1, 1) := by decide +kernel
theorem dX7_settingBy_10 : decode cX7_settingBy 10 = .ok (.istore 4, 2) := by decide +kernel
theorem dX7_settingBy_12 : decode cX7_settingBy 12 = .ok (.iconst 1, 1) := by decide +kernel
theorem dX7_settingBy_13 : decode cX7_settingBy 13 = .ok (.istore 5, 2) := by decide +kernel
theorem dX7_settingBy_15 : decode cX7_settingBy 15 = .ok (.iload 5, 2) := by decide +kernel
theorem dX7_settingBy_17 : decode cX7_settingBy 17 = .ok (.iload_n 2, 1) := by decide +kernel
theorem dX7_settingBy_18 : decode cX7_settingBy 18 = .ok (.if_icmp .ge 15, 3) := by decide +kernel
theorem dX7_settingBy_21 : decode cX7_settingBy 21 = .ok (.iload 4, 2) := by decide +kernel
theorem dX7_settingBy_23 : decode cX7_settingBy 23 = .ok (.iload_n 3, 1) := by decide +kernel
theorem dX7_settingBy_24 : decode cX7_settingBy 24 = .ok (.imul, 1) := by decide +kernel
theorem dX7_settingBy_25 : decode cX7_settingBy 25 = .ok (.istore 4, 2) := by decide +kernel
theorem dX7_settingBy_27 : decode cX7_settingBy 27 = .ok (.iinc 5 1, 3) := by decide +kernel
theorem dX7_settingBy_30 : decode cX7_settingBy 30 = .ok (.goto (-15), 3) := by decide +kernel
theorem dX7_settingBy_33 : decode cX7_settingBy 33 = .ok (.aload_n 0, 1) := by decide +kernel
theorem dX7_settingBy_34 : decode cX7_settingBy 34 = .ok (.getfield 19, 3) := by decide +kernel
theorem dX7_settingBy_37 : decode cX7_settingBy 37 = .ok (.aload_n 0, 1) := by decide +kernel
theorem dX7_settingBy_38 : decode cX7_settingBy 38 = .ok (.getfield 34, 3) := by decide +kernel
theorem dX7_settingBy_41 : decode cX7_settingBy 41 = .ok (.invokestatic 205, 3) := by decide +kernel
theorem dX7_settingBy_44 : decode cX7_settingBy 44 = .ok (.iconst 0, 1) := by decide +kernel
theorem dX7_settingBy_45 : decode cX7_settingBy 45 = .ok (.istore 5, 2) := by decide +kernel
theorem dX7_settingBy_47 : decode cX7_settingBy 47 = .ok (.iload_n 1, 1) := by decide +kernel
theorem dX7_settingBy_48 : decode cX7_settingBy 48 = .ok (.istore 6, 2) := by decide +kernel
theorem dX7_settingBy_50 : decode cX7_settingBy 50 = .ok (.iconst 0, 1) := by decide +kernel
theorem dX7_settingBy_51 : decode cX7_settingBy 51 = .ok (.istore 7, 2) := by decide +kernel
theorem dX7_settingBy_53 : decode cX7_settingBy 53 = .ok (.iload 7, 2) := by decide +kernel
theorem dX7_settingBy_55 : decode cX7_settingBy 55 = .ok (.iload_n 2, 1) := by decide +kernel
theorem dX7_settingBy_56 : decode cX7_settingBy 56 = .ok (.if_icmp .ge 71, 3) := by decide +kernel
theorem dX7_settingBy_59 : decode cX7_settingBy 59 = .ok (.aload_n 0, 1) := by decide +kernel
theorem dX7_settingBy_60 : decode cX7_settingBy 60 = .ok (.aload_n 0, 1) := by decide +kernel
theorem dX7_settingBy_61 : decode cX7_settingBy 61 = .ok (.getfield 34, 3) := by decide +kernel
theorem dX7_settingBy_64 : decode cX7_settingBy 64 = .ok (.iload 6, 2) := by decide +kernel
theorem dX7_settingBy_66 : decode cX7_settingBy 66 = .ok (.iload 4, 2) := by decide +kernel
theorem dX7_settingBy_68 : decode cX7_settingBy 68 = .ok (.idiv, 1) := by decide +kernel
theorem dX7_settingBy_69 : decode cX7_settingBy 69 = .ok (.iconst 1, 1) := by decide +kernel
theorem dX7_settingBy_70 : decode cX7_settingBy 70 = .ok (.isub, 1) := by decide +kernel
theorem dX7_settingBy_71 : decode cX7_settingBy 71 = .ok (.invokevirtual 209, 3) := by decide +kernel
theorem dX7_settingBy_74 : decode cX7_settingBy 74 = .ok (.iload 6, 2) := by decide +kernel
theorem dX7_settingBy_76 : decode cX7_settingBy 76 = .ok (.iload 4, 2) := by decide +kernel
theorem dX7_settingBy_78 : decode cX7_settingBy 78 = .ok (.irem, 1) := by decide +kernel
theorem dX7_settingBy_79 : decode cX7_settingBy 79 = .ok (.istore 6, 2) := by decide +kernel
theorem dX7_settingBy_81 : decode cX7_settingBy 81 = .ok (.iload 4, 2) := by decide +kernel
theorem dX7_settingBy_83 : decode cX7_settingBy 83 = .ok (.iload_n 3, 1) := by decide +kernel
theorem dX7_settingBy_84 : decode cX7_settingBy 84 = .ok (.idiv, 1) := by decide +kernel
theorem dX7_settingBy_85 : decode cX7_settingBy 85 = .ok (.istore 4, 2) := by decide +kernel
theorem dX7_settingBy_87 : decode cX7_settingBy 87 = .ok (.iload 5, 2) := by decide +kernel
theorem dX7_settingBy_89 : decode cX7_settingBy 89 = .ok (.aload_n 0, 1) := by decide +kernel
theorem dX7_settingBy_90 : decode cX7_settingBy 90 = .ok (.aload_n 0, 1) := by decide +kernel
theorem dX7_settingBy_91 : decode cX7_settingBy 91 = .ok (.getfield 34, 3) := by decide +kernel
theorem dX7_settingBy_94 : decode cX7_settingBy 94 = .ok (.iload 7, 2) := by decide +kernel
theorem dX7_settingBy_96 : decode cX7_settingBy 96 = .ok (.ifCond .ne 7, 3) := by decide +kernel
theorem dX7_settingBy_99 : decode cX7_settingBy 99 = .ok (.iconst 1, 1) := by decide +kernel
theorem dX7_settingBy_100 : decode cX7_settingBy 100 = .ok (.goto 4, 3) := by decide +kernel
theorem dX7_settingBy_103 : decode cX7_settingBy 103 = .ok (.iconst 0, 1) := by decide +kernel
theorem dX7_settingBy_104 : decode cX7_settingBy 104 = .ok (.invokevirtual 162, 3) := by decide +kernel
theorem dX7_settingBy_107 : decode cX7_settingBy 107 = .ok (.invokestatic 169, 3) := by decide +kernel
theorem dX7_settingBy_110 : decode cX7_settingBy 110 = .ok (.iadd, 1) := by decide +kernel
theorem dX7_settingBy_111 : decode cX7_settingBy 111 = .ok (.istore 5, 2) := by decide +kernel
theorem dX7_settingBy_113 : decode cX7_settingBy 113 = .ok (.aload_n 0, 1) := by decide +kernel
theorem dX7_settingBy_114 : decode cX7_settingBy 114 = .ok (.aload_n 0, 1) := by decide +kernel
theorem dX7_settingBy_115 : decode cX7_settingBy 115 = .ok (.getfield 34, 3) := by decide +kernel
theorem dX7_settingBy_118 : decode cX7_settingBy 118 = .ok (.invokevirtual 236, 3) := by decide +kernel
theorem dX7_settingBy_121 : decode cX7_settingBy 121 = .ok (.iinc 7 1, 3) := by decide +kernel
theorem dX7_settingBy_124 : decode cX7_settingBy 124 = .ok (.goto (-71), 3) := by decide +kernel
theorem dX7_settingBy_127 : decode cX7_settingBy 127 = .ok (.iload 5, 2) := by decide +kernel
theorem dX7_settingBy_129 : decode cX7_settingBy 129 = .ok (.ireturn, 1) := by decide +kernel
theorem dX7_weekOf_0 : decode cX7_weekOf 0 = .ok (.iconst 3, 1) := by decide +kernel
theorem dX7_weekOf_1 : decode cX7_weekOf 1 = .ok (.aload_n 0, 1) := by decide +kernel
theorem dX7_weekOf_2 : decode cX7_weekOf 2 = .ok (.getfield 109, 3) := by decide +kernel
theorem dX7_weekOf_5 : decode cX7_weekOf 5 = .ok (.imul, 1) := by decide +kernel
theorem dX7_weekOf_6 : decode cX7_weekOf 6 = .ok (.iconst 1, 1) := by decide +kernel
theorem dX7_weekOf_7 : decode cX7_weekOf 7 = .ok (.iadd, 1) := by decide +kernel
theorem dX7_weekOf_8 : decode cX7_weekOf 8 = .ok (.istore_n 3, 1) := by decide +kernel
theorem dX7_weekOf_9 : decode cX7_weekOf 9 = .ok (.iconst 1, 1) := by decide +kernel
theorem dX7_weekOf_10 : decode cX7_weekOf 10 = .ok (.istore 4, 2) := by decide +kernel
theorem dX7_weekOf_12 : decode cX7_weekOf 12 = .ok (.iconst 0, 1) := by decide +kernel
theorem dX7_weekOf_13 : decode cX7_weekOf 13 = .ok (.istore 5, 2) := by decide +kernel
theorem dX7_weekOf_15 : decode cX7_weekOf 15 = .ok (.iload 5, 2) := by decide +kernel
theorem dX7_weekOf_17 : decode cX7_weekOf 17 = .ok (.iload_n 1, 1) := by decide +kernel
theorem dX7_weekOf_18 : decode cX7_weekOf 18 = .ok (.if_icmp .ge 15, 3) := by decide +kernel
theorem dX7_weekOf_21 : decode cX7_weekOf 21 = .ok (.iload 4, 2) := by decide +kernel
theorem dX7_weekOf_23 : decode cX7_weekOf 23 = .ok (.iload_n 3, 1) := by decide +kernel
theorem dX7_weekOf_24 : decode cX7_weekOf 24 = .ok (.imul, 1) := by decide +kernel
theorem dX7_weekOf_25 : decode cX7_weekOf 25 = .ok (.istore 4, 2) := by decide +kernel
theorem dX7_weekOf_27 : decode cX7_weekOf 27 = .ok (.iinc 5 1, 3) := by decide +kernel
theorem dX7_weekOf_30 : decode cX7_weekOf 30 = .ok (.goto (-15), 3) := by decide +kernel
theorem dX7_weekOf_33 : decode cX7_weekOf 33 = .ok (.iconst (-1), 1) := by decide +kernel
theorem dX7_weekOf_34 : decode cX7_weekOf 34 = .ok (.istore 5, 2) := by decide +kernel
theorem dX7_weekOf_36 : decode cX7_weekOf 36 = .ok (.iconst 0, 1) := by decide +kernel
theorem dX7_weekOf_37 : decode cX7_weekOf 37 = .ok (.istore 6, 2) := by decide +kernel
theorem dX7_weekOf_39 : decode cX7_weekOf 39 = .ok (.iconst 0, 1) := by decide +kernel
theorem dX7_weekOf_40 : decode cX7_weekOf 40 = .ok (.istore 7, 2) := by decide +kernel
theorem dX7_weekOf_42 : decode cX7_weekOf 42 = .ok (.iload 7, 2) := by decide +kernel
theorem dX7_weekOf_44 : decode cX7_weekOf 44 = .ok (.iload 4, 2) := by decide +kernel
theorem dX7_weekOf_46 : decode cX7_weekOf 46 = .ok (.if_icmp .ge 50, 3) := by decide +kernel
theorem dX7_weekOf_49 : decode cX7_weekOf 49 = .ok (.aload_n 0, 1) := by decide +kernel
theorem dX7_weekOf_50 : decode cX7_weekOf 50 = .ok (.iload 7, 2) := by decide +kernel
theorem dX7_weekOf_52 : decode cX7_weekOf 52 = .ok (.iload_n 1, 1) := by decide +kernel
theorem dX7_weekOf_53 : decode cX7_weekOf 53 = .ok (.invokevirtual 259, 3) := by decide +kernel
theorem dX7_weekOf_56 : decode cX7_weekOf 56 = .ok (.istore 8, 2) := by decide +kernel
theorem dX7_weekOf_58 : decode cX7_weekOf 58 = .ok (.iload 8, 2) := by decide +kernel
theorem dX7_weekOf_60 : decode cX7_weekOf 60 = .ok (.iload 5, 2) := by decide +kernel
theorem dX7_weekOf_62 : decode cX7_weekOf 62 = .ok (.if_icmp .le 8, 3) := by decide +kernel
theorem dX7_weekOf_65 : decode cX7_weekOf 65 = .ok (.iload 7, 2) := by decide +kernel
theorem dX7_weekOf_67 : decode cX7_weekOf 67 = .ok (.goto 5, 3) := by decide +kernel
theorem dX7_weekOf_70 : decode cX7_weekOf 70 = .ok (.iload 6, 2) := by decide +kernel
theorem dX7_weekOf_72 : decode cX7_weekOf 72 = .ok (.istore 6, 2) := by decide +kernel
theorem dX7_weekOf_74 : decode cX7_weekOf 74 = .ok (.iload 8, 2) := by decide +kernel
theorem dX7_weekOf_76 : decode cX7_weekOf 76 = .ok (.iload 5, 2) := by decide +kernel
theorem dX7_weekOf_78 : decode cX7_weekOf 78 = .ok (.if_icmp .le 8, 3) := by decide +kernel
theorem dX7_weekOf_81 : decode cX7_weekOf 81 = .ok (.iload 8, 2) := by decide +kernel
theorem dX7_weekOf_83 : decode cX7_weekOf 83 = .ok (.goto 5, 3) := by decide +kernel
theorem dX7_weekOf_86 : decode cX7_weekOf 86 = .ok (.iload 5, 2) := by decide +kernel
theorem dX7_weekOf_88 : decode cX7_weekOf 88 = .ok (.istore 5, 2) := by decide +kernel
theorem dX7_weekOf_90 : decode cX7_weekOf 90 = .ok (.iinc 7 1, 3) := by decide +kernel
theorem dX7_weekOf_93 : decode cX7_weekOf 93 = .ok (.goto (-51), 3) := by decide +kernel
theorem dX7_weekOf_96 : decode cX7_weekOf 96 = .ok (.iload_n 2, 1) := by decide +kernel
theorem dX7_weekOf_97 : decode cX7_weekOf 97 = .ok (.ifCond .ne 6, 3) := by decide +kernel
theorem dX7_weekOf_100 : decode cX7_weekOf 100 = .ok (.iload 5, 2) := by decide +kernel
theorem dX7_weekOf_102 : decode cX7_weekOf 102 = .ok (.ireturn, 1) := by decide +kernel
theorem dX7_weekOf_103 : decode cX7_weekOf 103 = .ok (.iload_n 1, 1) := by decide +kernel
theorem dX7_weekOf_104 : decode cX7_weekOf 104 = .ok (.iconst 1, 1) := by decide +kernel
theorem dX7_weekOf_105 : decode cX7_weekOf 105 = .ok (.isub, 1) := by decide +kernel
theorem dX7_weekOf_106 : decode cX7_weekOf 106 = .ok (.istore 7, 2) := by decide +kernel
theorem dX7_weekOf_108 : decode cX7_weekOf 108 = .ok (.iload 7, 2) := by decide +kernel
theorem dX7_weekOf_110 : decode cX7_weekOf 110 = .ok (.iload_n 2, 1) := by decide +kernel
theorem dX7_weekOf_111 : decode cX7_weekOf 111 = .ok (.bipush 10, 2) := by decide +kernel
theorem dX7_weekOf_113 : decode cX7_weekOf 113 = .ok (.isub, 1) := by decide +kernel
theorem dX7_weekOf_114 : decode cX7_weekOf 114 = .ok (.if_icmp .le 15, 3) := by decide +kernel
theorem dX7_weekOf_117 : decode cX7_weekOf 117 = .ok (.iload 6, 2) := by decide +kernel
theorem dX7_weekOf_119 : decode cX7_weekOf 119 = .ok (.iload_n 3, 1) := by decide +kernel
theorem dX7_weekOf_120 : decode cX7_weekOf 120 = .ok (.idiv, 1) := by decide +kernel
theorem dX7_weekOf_121 : decode cX7_weekOf 121 = .ok (.istore 6, 2) := by decide +kernel
theorem dX7_weekOf_123 : decode cX7_weekOf 123 = .ok (.iinc 7 (-1), 3) := by decide +kernel
theorem dX7_weekOf_126 : decode cX7_weekOf 126 = .ok (.goto (-18), 3) := by decide +kernel
theorem dX7_weekOf_129 : decode cX7_weekOf 129 = .ok (.iload_n 2, 1) := by decide +kernel
theorem dX7_weekOf_130 : decode cX7_weekOf 130 = .ok (.bipush 10, 2) := by decide +kernel
theorem dX7_weekOf_132 : decode cX7_weekOf 132 = .ok (.isub, 1) := by decide +kernel
theorem dX7_weekOf_133 : decode cX7_weekOf 133 = .ok (.iload_n 1, 1) := by decide +kernel
theorem dX7_weekOf_134 : decode cX7_weekOf 134 = .ok (.if_icmp .ge 12, 3) := by decide +kernel
theorem dX7_weekOf_137 : decode cX7_weekOf 137 = .ok (.iload 6, 2) := by decide +kernel
theorem dX7_weekOf_139 : decode cX7_weekOf 139 = .ok (.iload_n 3, 1) := by decide +kernel
theorem dX7_weekOf_140 : decode cX7_weekOf 140 = .ok (.irem, 1) := by decide +kernel
theorem dX7_weekOf_141 : decode cX7_weekOf 141 = .ok (.iconst 1, 1) := by decide +kernel
theorem dX7_weekOf_142 : decode cX7_weekOf 142 = .ok (.isub, 1) := by decide +kernel
theorem dX7_weekOf_143 : decode cX7_weekOf 143 = .ok (.goto 4, 3) := by decide +kernel
theorem dX7_weekOf_146 : decode cX7_weekOf 146 = .ok (.iconst (-1), 1) := by decide +kernel
theorem dX7_weekOf_147 : decode cX7_weekOf 147 = .ok (.ireturn, 1) := by decide +kernel
theorem dX7_week_0 : decode cX7_week 0 = .ok (.iload_n 1, 1) := by decide +kernel
theorem dX7_week_1 : decode cX7_week 1 = .ok (.i2l, 1) := by decide +kernel
theorem dX7_week_2 : decode cX7_week 2 = .ok (.lconst 1, 1) := by decide +kernel
theorem dX7_week_3 : decode cX7_week 3 = .ok (.ldc2_w 139, 3) := by decide +kernel
theorem dX7_week_6 : decode cX7_week 6 = .ok (.invokestatic 76, 3) := by decide +kernel
theorem dX7_week_9 : decode cX7_week 9 = .ok (.ifCond .eq 21, 3) := by decide +kernel
theorem dX7_week_12 : decode cX7_week 12 = .ok (.iload_n 2, 1) := by decide +kernel
theorem dX7_week_13 : decode cX7_week 13 = .ok (.ifCond .eq 20, 3) := by decide +kernel
theorem dX7_week_16 : decode cX7_week 16 = .ok (.iload_n 2, 1) := by decide +kernel
theorem dX7_week_17 : decode cX7_week 17 = .ok (.i2l, 1) := by decide +kernel
theorem dX7_week_18 : decode cX7_week 18 = .ok (.ldc2_w 172, 3) := by decide +kernel
theorem dX7_week_21 : decode cX7_week 21 = .ok (.ldc2_w 174, 3) := by decide +kernel
theorem dX7_week_24 : decode cX7_week 24 = .ok (.invokestatic 76, 3) := by decide +kernel
theorem dX7_week_27 : decode cX7_week 27 = .ok (.ifCond .ne 6, 3) := by decide +kernel
theorem dX7_week_30 : decode cX7_week 30 = .ok (.bipush (-102), 2) := by decide +kernel
theorem dX7_week_32 : decode cX7_week 32 = .ok (.ireturn, 1) := by decide +kernel
theorem dX7_week_33 : decode cX7_week 33 = .ok (.aload_n 0, 1) := by decide +kernel
theorem dX7_week_34 : decode cX7_week 34 = .ok (.invokevirtual 133, 3) := by decide +kernel
theorem dX7_week_37 : decode cX7_week 37 = .ok (.ifCond .ne 12, 3) := by decide +kernel
theorem dX7_week_40 : decode cX7_week 40 = .ok (.aload_n 0, 1) := by decide +kernel
theorem dX7_week_41 : decode cX7_week 41 = .ok (.getfield 262, 3) := by decide +kernel
theorem dX7_week_44 : decode cX7_week 44 = .ok (.bipush 20, 2) := by decide +kernel
theorem dX7_week_46 : decode cX7_week 46 = .ok (.if_icmp .ne 6, 3) := by decide +kernel
theorem dX7_week_49 : decode cX7_week 49 = .ok (.bipush (-103), 2) := by decide +kernel
theorem dX7_week_51 : decode cX7_week 51 = .ok (.ireturn, 1) := by decide +kernel
theorem dX7_week_52 : decode cX7_week 52 = .ok (.aload_n 0, 1) := by decide +kernel
theorem dX7_week_53 : decode cX7_week 53 = .ok (.dup, 1) := by decide +kernel
theorem dX7_week_54 : decode cX7_week 54 = .ok (.getfield 262, 3) := by decide +kernel
theorem dX7_week_57 : decode cX7_week 57 = .ok (.iconst 1, 1) := by decide +kernel
theorem dX7_week_58 : decode cX7_week 58 = .ok (.iadd, 1) := by decide +kernel
theorem dX7_week_59 : decode cX7_week 59 = .ok (.putfield 262, 3) := by decide +kernel
theorem dX7_week_62 : decode cX7_week 62 = .ok (.aload_n 0, 1) := by decide +kernel
theorem dX7_week_63 : decode cX7_week 63 = .ok (.iload_n 1, 1) := by decide +kernel
theorem dX7_week_64 : decode cX7_week 64 = .ok (.iload_n 2, 1) := by decide +kernel
theorem dX7_week_65 : decode cX7_week 65 = .ok (.invokevirtual 265, 3) := by decide +kernel
theorem dX7_week_68 : decode cX7_week 68 = .ok (.ireturn, 1) := by decide +kernel
theorem dX7_whoOf_0 : decode cX7_whoOf 0 = .ok (.iconst 0, 1) := by decide +kernel
theorem dX7_whoOf_1 : decode cX7_whoOf 1 = .ok (.istore_n 2, 1) := by decide +kernel
theorem dX7_whoOf_2 : decode cX7_whoOf 2 = .ok (.iconst 0, 1) := by decide +kernel
theorem dX7_whoOf_3 : decode cX7_whoOf 3 = .ok (.istore_n 3, 1) := by decide +kernel
theorem dX7_whoOf_4 : decode cX7_whoOf 4 = .ok (.iload_n 3, 1) := by decide +kernel
theorem dX7_whoOf_5 : decode cX7_whoOf 5 = .ok (.iconst 3, 1) := by decide +kernel
theorem dX7_whoOf_6 : decode cX7_whoOf 6 = .ok (.aload_n 0, 1) := by decide +kernel
theorem dX7_whoOf_7 : decode cX7_whoOf 7 = .ok (.getfield 109, 3) := by decide +kernel
theorem dX7_whoOf_10 : decode cX7_whoOf 10 = .ok (.imul, 1) := by decide +kernel
theorem dX7_whoOf_11 : decode cX7_whoOf 11 = .ok (.if_icmp .ge 52, 3) := by decide +kernel
theorem dX7_whoOf_14 : decode cX7_whoOf 14 = .ok (.aload_n 0, 1) := by decide +kernel
theorem dX7_whoOf_15 : decode cX7_whoOf 15 = .ok (.getfield 19, 3) := by decide +kernel
theorem dX7_whoOf_18 : decode cX7_whoOf 18 = .ok (.aload_n 0, 1) := by decide +kernel
theorem dX7_whoOf_19 : decode cX7_whoOf 19 = .ok (.getfield 34, 3) := by decide +kernel
theorem dX7_whoOf_22 : decode cX7_whoOf 22 = .ok (.invokestatic 205, 3) := by decide +kernel
theorem dX7_whoOf_25 : decode cX7_whoOf 25 = .ok (.aload_n 0, 1) := by decide +kernel
theorem dX7_whoOf_26 : decode cX7_whoOf 26 = .ok (.aload_n 0, 1) := by decide +kernel
theorem dX7_whoOf_27 : decode cX7_whoOf 27 = .ok (.getfield 34, 3) := by decide +kernel
theorem dX7_whoOf_30 : decode cX7_whoOf 30 = .ok (.iload_n 3, 1) := by decide +kernel
theorem dX7_whoOf_31 : decode cX7_whoOf 31 = .ok (.invokevirtual 209, 3) := by decide +kernel
theorem dX7_whoOf_34 : decode cX7_whoOf 34 = .ok (.iload_n 2, 1) := by decide +kernel
theorem dX7_whoOf_35 : decode cX7_whoOf 35 = .ok (.aload_n 0, 1) := by decide +kernel
theorem dX7_whoOf_36 : decode cX7_whoOf 36 = .ok (.aload_n 0, 1) := by decide +kernel
theorem dX7_whoOf_37 : decode cX7_whoOf 37 = .ok (.getfield 34, 3) := by decide +kernel
theorem dX7_whoOf_40 : decode cX7_whoOf 40 = .ok (.iconst 1, 1) := by decide +kernel
theorem dX7_whoOf_41 : decode cX7_whoOf 41 = .ok (.invokevirtual 162, 3) := by decide +kernel
theorem dX7_whoOf_44 : decode cX7_whoOf 44 = .ok (.iload_n 1, 1) := by decide +kernel
theorem dX7_whoOf_45 : decode cX7_whoOf 45 = .ok (.if_icmp .ne 9, 3) := by decide +kernel
theorem dX7_whoOf_48 : decode cX7_whoOf 48 = .ok (.iconst 1, 1) := by decide +kernel
theorem dX7_whoOf_49 : decode cX7_whoOf 49 = .ok (.iload_n 3, 1) := by decide +kernel
theorem dX7_whoOf_50 : decode cX7_whoOf 50 = .ok (.ishl, 1) := by decide +kernel
theorem dX7_whoOf_51 : decode cX7_whoOf 51 = .ok (.goto 4, 3) := by decide +kernel
theorem dX7_whoOf_54 : decode cX7_whoOf 54 = .ok (.iconst 0, 1) := by decide +kernel
theorem dX7_whoOf_55 : decode cX7_whoOf 55 = .ok (.ior, 1) := by decide +kernel
theorem dX7_whoOf_56 : decode cX7_whoOf 56 = .ok (.istore_n 2, 1) := by decide +kernel
theorem dX7_whoOf_57 : decode cX7_whoOf 57 = .ok (.iinc 3 1, 3) := by decide +kernel
theorem dX7_whoOf_60 : decode cX7_whoOf 60 = .ok (.goto (-56), 3) := by decide +kernel
theorem dX7_whoOf_63 : decode cX7_whoOf 63 = .ok (.iload_n 2, 1) := by decide +kernel
theorem dX7_whoOf_64 : decode cX7_whoOf 64 = .ok (.ireturn, 1) := by decide +kernel
theorem dX7_who_0 : decode cX7_who 0 = .ok (.iload_n 1, 1) := by decide +kernel
theorem dX7_who_1 : decode cX7_who 1 = .ok (.i2l, 1) := by decide +kernel
theorem dX7_who_2 : decode cX7_who 2 = .ok (.lconst 0, 1) := by decide +kernel
theorem dX7_who_3 : decode cX7_who 3 = .ok (.iconst 1, 1) := by decide +kernel
theorem dX7_who_4 : decode cX7_who 4 = .ok (.aload_n 0, 1) := by decide +kernel
theorem dX7_who_5 : decode cX7_who 5 = .ok (.getfield 112, 3) := by decide +kernel
theorem dX7_who_8 : decode cX7_who 8 = .ok (.ishl, 1) := by decide +kernel
theorem dX7_who_9 : decode cX7_who 9 = .ok (.iconst 1, 1) := by decide +kernel
theorem dX7_who_10 : decode cX7_who 10 = .ok (.isub, 1) := by decide +kernel
theorem dX7_who_11 : decode cX7_who 11 = .ok (.i2l, 1) := by decide +kernel
theorem dX7_who_12 : decode cX7_who 12 = .ok (.invokestatic 76, 3) := by decide +kernel
theorem dX7_who_15 : decode cX7_who 15 = .ok (.ifCond .ne 6, 3) := by decide +kernel
theorem dX7_who_18 : decode cX7_who 18 = .ok (.bipush (-102), 2) := by decide +kernel
theorem dX7_who_20 : decode cX7_who 20 = .ok (.ireturn, 1) := by decide +kernel
theorem dX7_who_21 : decode cX7_who 21 = .ok (.aload_n 0, 1) := by decide +kernel
theorem dX7_who_22 : decode cX7_who 22 = .ok (.invokevirtual 133, 3) := by decide +kernel
theorem dX7_who_25 : decode cX7_who 25 = .ok (.ifCond .eq 8, 3) := by decide +kernel
theorem dX7_who_28 : decode cX7_who 28 = .ok (.bipush (-103), 2) := by decide +kernel
theorem dX7_who_30 : decode cX7_who 30 = .ok (.goto 8, 3) := by decide +kernel
theorem dX7_who_33 : decode cX7_who 33 = .ok (.aload_n 0, 1) := by decide +kernel
theorem dX7_who_34 : decode cX7_who 34 = .ok (.iload_n 1, 1) := by decide +kernel
theorem dX7_who_35 : decode cX7_who 35 = .ok (.invokevirtual 268, 3) := by decide +kernel
theorem dX7_who_38 : decode cX7_who 38 = .ok (.ireturn, 1) := by decide +kernel
theorem dX7_see_0 : decode cX7_see 0 = .ok (.aload_n 0, 1) := by decide +kernel
theorem dX7_see_1 : decode cX7_see 1 = .ok (.iload_n 1, 1) := by decide +kernel
theorem dX7_see_2 : decode cX7_see 2 = .ok (.invokevirtual 188, 3) := by decide +kernel
theorem dX7_see_5 : decode cX7_see 5 = .ok (.ifCond .ne 6, 3) := by decide +kernel
theorem dX7_see_8 : decode cX7_see 8 = .ok (.bipush (-101), 2) := by decide +kernel
theorem dX7_see_10 : decode cX7_see 10 = .ok (.ireturn, 1) := by decide +kernel
theorem dX7_see_11 : decode cX7_see 11 = .ok (.iload_n 2, 1) := by decide +kernel
theorem dX7_see_12 : decode cX7_see 12 = .ok (.i2l, 1) := by decide +kernel
theorem dX7_see_13 : decode cX7_see 13 = .ok (.lconst 0, 1) := by decide +kernel
theorem dX7_see_14 : decode cX7_see 14 = .ok (.ldc2_w 231, 3) := by decide +kernel
theorem dX7_see_17 : decode cX7_see 17 = .ok (.invokestatic 76, 3) := by decide +kernel
theorem dX7_see_20 : decode cX7_see 20 = .ok (.ifCond .eq 15, 3) := by decide +kernel
theorem dX7_see_23 : decode cX7_see 23 = .ok (.iload_n 3, 1) := by decide +kernel
theorem dX7_see_24 : decode cX7_see 24 = .ok (.i2l, 1) := by decide +kernel
theorem dX7_see_25 : decode cX7_see 25 = .ok (.lconst 0, 1) := by decide +kernel
theorem dX7_see_26 : decode cX7_see 26 = .ok (.ldc2_w 271, 3) := by decide +kernel
theorem dX7_see_29 : decode cX7_see 29 = .ok (.invokestatic 76, 3) := by decide +kernel
theorem dX7_see_32 : decode cX7_see 32 = .ok (.ifCond .ne 6, 3) := by decide +kernel
theorem dX7_see_35 : decode cX7_see 35 = .ok (.bipush (-102), 2) := by decide +kernel
theorem dX7_see_37 : decode cX7_see 37 = .ok (.ireturn, 1) := by decide +kernel
theorem dX7_see_38 : decode cX7_see 38 = .ok (.aload_n 0, 1) := by decide +kernel
theorem dX7_see_39 : decode cX7_see 39 = .ok (.getfield 127, 3) := by decide +kernel
theorem dX7_see_42 : decode cX7_see 42 = .ok (.bipush 6, 2) := by decide +kernel
theorem dX7_see_44 : decode cX7_see 44 = .ok (.if_icmp .ne 6, 3) := by decide +kernel
theorem dX7_see_47 : decode cX7_see 47 = .ok (.bipush (-104), 2) := by decide +kernel
theorem dX7_see_49 : decode cX7_see 49 = .ok (.ireturn, 1) := by decide +kernel
theorem dX7_see_50 : decode cX7_see 50 = .ok (.aload_n 0, 1) := by decide +kernel
theorem dX7_see_51 : decode cX7_see 51 = .ok (.getfield 43, 3) := by decide +kernel
theorem dX7_see_54 : decode cX7_see 54 = .ok (.iconst 3, 1) := by decide +kernel
theorem dX7_see_55 : decode cX7_see 55 = .ok (.aload_n 0, 1) := by decide +kernel
theorem dX7_see_56 : decode cX7_see 56 = .ok (.getfield 127, 3) := by decide +kernel
theorem dX7_see_59 : decode cX7_see 59 = .ok (.imul, 1) := by decide +kernel
theorem dX7_see_60 : decode cX7_see 60 = .ok (.iload_n 1, 1) := by decide +kernel
theorem dX7_see_61 : decode cX7_see 61 = .ok (.iastore, 1) := by decide +kernel
theorem dX7_see_62 : decode cX7_see 62 = .ok (.aload_n 0, 1) := by decide +kernel
theorem dX7_see_63 : decode cX7_see 63 = .ok (.getfield 43, 3) := by decide +kernel
theorem dX7_see_66 : decode cX7_see 66 = .ok (.iconst 3, 1) := by decide +kernel
theorem dX7_see_67 : decode cX7_see 67 = .ok (.aload_n 0, 1) := by decide +kernel
theorem dX7_see_68 : decode cX7_see 68 = .ok (.getfield 127, 3) := by decide +kernel
theorem dX7_see_71 : decode cX7_see 71 = .ok (.imul, 1) := by decide +kernel
theorem dX7_see_72 : decode cX7_see 72 = .ok (.iconst 1, 1) := by decide +kernel
theorem dX7_see_73 : decode cX7_see 73 = .ok (.iadd, 1) := by decide +kernel
theorem dX7_see_74 : decode cX7_see 74 = .ok (.iload_n 2, 1) := by decide +kernel
theorem dX7_see_75 : decode cX7_see 75 = .ok (.iastore, 1) := by decide +kernel
theorem dX7_see_76 : decode cX7_see 76 = .ok (.aload_n 0, 1) := by decide +kernel
theorem dX7_see_77 : decode cX7_see 77 = .ok (.getfield 43, 3) := by decide +kernel
theorem dX7_see_80 : decode cX7_see 80 = .ok (.iconst 3, 1) := by decide +kernel
theorem dX7_see_81 : decode cX7_see 81 = .ok (.aload_n 0, 1) := by decide +kernel
theorem dX7_see_82 : decode cX7_see 82 = .ok (.getfield 127, 3) := by decide +kernel
theorem dX7_see_85 : decode cX7_see 85 = .ok (.imul, 1) := by decide +kernel
theorem dX7_see_86 : decode cX7_see 86 = .ok (.iconst 2, 1) := by decide +kernel
theorem dX7_see_87 : decode cX7_see 87 = .ok (.iadd, 1) := by decide +kernel
theorem dX7_see_88 : decode cX7_see 88 = .ok (.iload_n 3, 1) := by decide +kernel
theorem dX7_see_89 : decode cX7_see 89 = .ok (.iastore, 1) := by decide +kernel
theorem dX7_see_90 : decode cX7_see 90 = .ok (.aload_n 0, 1) := by decide +kernel
theorem dX7_see_91 : decode cX7_see 91 = .ok (.dup, 1) := by decide +kernel
theorem dX7_see_92 : decode cX7_see 92 = .ok (.getfield 127, 3) := by decide +kernel
theorem dX7_see_95 : decode cX7_see 95 = .ok (.iconst 1, 1) := by decide +kernel
theorem dX7_see_96 : decode cX7_see 96 = .ok (.iadd, 1) := by decide +kernel
theorem dX7_see_97 : decode cX7_see 97 = .ok (.putfield 127, 3) := by decide +kernel
theorem dX7_see_100 : decode cX7_see 100 = .ok (.aload_n 0, 1) := by decide +kernel
theorem dX7_see_101 : decode cX7_see 101 = .ok (.getfield 127, 3) := by decide +kernel
theorem dX7_see_104 : decode cX7_see 104 = .ok (.ireturn, 1) := by decide +kernel
theorem dX7_forget_0 : decode cX7_forget 0 = .ok (.aload_n 0, 1) := by decide +kernel
theorem dX7_forget_1 : decode cX7_forget 1 = .ok (.getfield 127, 3) := by decide +kernel
theorem dX7_forget_4 : decode cX7_forget 4 = .ok (.istore_n 1, 1) := by decide +kernel
theorem dX7_forget_5 : decode cX7_forget 5 = .ok (.aload_n 0, 1) := by decide +kernel
theorem dX7_forget_6 : decode cX7_forget 6 = .ok (.iconst 0, 1) := by decide +kernel
theorem dX7_forget_7 : decode cX7_forget 7 = .ok (.putfield 127, 3) := by decide +kernel
theorem dX7_forget_10 : decode cX7_forget 10 = .ok (.iload_n 1, 1) := by decide +kernel
theorem dX7_forget_11 : decode cX7_forget 11 = .ok (.ireturn, 1) := by decide +kernel
theorem dX7_pridesOf_0 : decode cX7_pridesOf 0 = .ok (.iconst 0, 1) := by decide +kernel
theorem dX7_pridesOf_1 : decode cX7_pridesOf 1 = .ok (.istore_n 2, 1) := by decide +kernel
theorem dX7_pridesOf_2 : decode cX7_pridesOf 2 = .ok (.iconst 1, 1) := by decide +kernel
theorem dX7_pridesOf_3 : decode cX7_pridesOf 3 = .ok (.istore_n 3, 1) := by decide +kernel
theorem dX7_pridesOf_4 : decode cX7_pridesOf 4 = .ok (.iload_n 3, 1) := by decide +kernel
theorem dX7_pridesOf_5 : decode cX7_pridesOf 5 = .ok (.bipush 10, 2) := by decide +kernel
theorem dX7_pridesOf_7 : decode cX7_pridesOf 7 = .ok (.if_icmp .ge 105, 3) := by decide +kernel
theorem dX7_pridesOf_10 : decode cX7_pridesOf 10 = .ok (.iconst 1, 1) := by decide +kernel
theorem dX7_pridesOf_11 : decode cX7_pridesOf 11 = .ok (.istore 4, 2) := by decide +kernel
theorem dX7_pridesOf_13 : decode cX7_pridesOf 13 = .ok (.iconst 0, 1) := by decide +kernel
theorem dX7_pridesOf_14 : decode cX7_pridesOf 14 = .ok (.istore 5, 2) := by decide +kernel
theorem dX7_pridesOf_16 : decode cX7_pridesOf 16 = .ok (.iload 5, 2) := by decide +kernel
theorem dX7_pridesOf_18 : decode cX7_pridesOf 18 = .ok (.iconst 3, 1) := by decide +kernel
theorem dX7_pridesOf_19 : decode cX7_pridesOf 19 = .ok (.aload_n 0, 1) := by decide +kernel
theorem dX7_pridesOf_20 : decode cX7_pridesOf 20 = .ok (.getfield 127, 3) := by decide +kernel
theorem dX7_pridesOf_23 : decode cX7_pridesOf 23 = .ok (.imul, 1) := by decide +kernel
theorem dX7_pridesOf_24 : decode cX7_pridesOf 24 = .ok (.if_icmp .ge 65, 3) := by decide +kernel
theorem dX7_pridesOf_27 : decode cX7_pridesOf 27 = .ok (.iload 4, 2) := by decide +kernel
theorem dX7_pridesOf_29 : decode cX7_pridesOf 29 = .ok (.ifCond .eq 51, 3) := by decide +kernel
theorem dX7_pridesOf_32 : decode cX7_pridesOf 32 = .ok (.aload_n 0, 1) := by decide +kernel
theorem dX7_pridesOf_33 : decode cX7_pridesOf 33 = .ok (.getfield 43, 3) := by decide +kernel
theorem dX7_pridesOf_36 : decode cX7_pridesOf 36 = .ok (.iload 5, 2) := by decide +kernel
theorem dX7_pridesOf_38 : decode cX7_pridesOf 38 = .ok (.iaload, 1) := by decide +kernel
theorem dX7_pridesOf_39 : decode cX7_pridesOf 39 = .ok (.iload_n 1, 1) := by decide +kernel
theorem dX7_pridesOf_40 : decode cX7_pridesOf 40 = .ok (.if_icmp .ne 36, 3) := by decide +kernel
theorem dX7_pridesOf_43 : decode cX7_pridesOf 43 = .ok (.aload_n 0, 1) := by decide +kernel
theorem dX7_pridesOf_44 : decode cX7_pridesOf 44 = .ok (.getfield 13, 3) := by decide +kernel
theorem dX7_pridesOf_47 : decode cX7_pridesOf 47 = .ok (.iconst 3, 1) := by decide +kernel
theorem dX7_pridesOf_48 : decode cX7_pridesOf 48 = .ok (.iload_n 1, 1) := by decide +kernel
theorem dX7_pridesOf_49 : decode cX7_pridesOf 49 = .ok (.imul, 1) := by decide +kernel
theorem dX7_pridesOf_50 : decode cX7_pridesOf 50 = .ok (.iaload, 1) := by decide +kernel
theorem dX7_pridesOf_51 : decode cX7_pridesOf 51 = .ok (.iload_n 3, 1) := by decide +kernel
theorem dX7_pridesOf_52 : decode cX7_pridesOf 52 = .ok (.aload_n 0, 1) := by decide +kernel
theorem dX7_pridesOf_53 : decode cX7_pridesOf 53 = .ok (.getfield 43, 3) := by decide +kernel
theorem dX7_pridesOf_56 : decode cX7_pridesOf 56 = .ok (.iload 5, 2) := by decide +kernel
theorem dX7_pridesOf_58 : decode cX7_pridesOf 58 = .ok (.iconst 1, 1) := by decide +kernel
theorem dX7_pridesOf_59 : decode cX7_pridesOf 59 = .ok (.iadd, 1) := by decide +kernel
theorem dX7_pridesOf_60 : decode cX7_pridesOf 60 = .ok (.iaload, 1) := by decide +kernel
theorem dX7_pridesOf_61 : decode cX7_pridesOf 61 = .ok (.invokestatic 141, 3) := by decide +kernel
theorem dX7_pridesOf_64 : decode cX7_pridesOf 64 = .ok (.aload_n 0, 1) := by decide +kernel
theorem dX7_pridesOf_65 : decode cX7_pridesOf 65 = .ok (.getfield 43, 3) := by decide +kernel
theorem dX7_pridesOf_68 : decode cX7_pridesOf 68 = .ok (.iload 5, 2) := by decide +kernel
theorem dX7_pridesOf_70 : decode cX7_pridesOf 70 = .ok (.iconst 2, 1) := by decide +kernel
theorem dX7_pridesOf_71 : decode cX7_pridesOf 71 = .ok (.iadd, 1) := by decide +kernel
theorem dX7_pridesOf_72 : decode cX7_pridesOf 72 = .ok (.iaload, 1) := by decide +kernel
theorem dX7_pridesOf_73 : decode cX7_pridesOf 73 = .ok (.if_icmp .ne 7, 3) := by decide +kernel
theorem dX7_pridesOf_76 : decode cX7_pridesOf 76 = .ok (.iconst 1, 1) := by decide +kernel
theorem dX7_pridesOf_77 : decode cX7_pridesOf 77 = .ok (.goto 4, 3) := by decide +kernel
theorem dX7_pridesOf_80 : decode cX7_pridesOf 80 = .ok (.iconst 0, 1) := by decide +kernel
theorem dX7_pridesOf_81 : decode cX7_pridesOf 81 = .ok (.istore 4, 2) := by decide +kernel
theorem dX7_pridesOf_83 : decode cX7_pridesOf 83 = .ok (.iinc 5 3, 3) := by decide +kernel
theorem dX7_pridesOf_86 : decode cX7_pridesOf 86 = .ok (.goto (-70), 3) := by decide +kernel
theorem dX7_pridesOf_89 : decode cX7_pridesOf 89 = .ok (.iload_n 2, 1) := by decide +kernel
theorem dX7_pridesOf_90 : decode cX7_pridesOf 90 = .ok (.iload 4, 2) := by decide +kernel
theorem dX7_pridesOf_92 : decode cX7_pridesOf 92 = .ok (.ifCond .eq 11, 3) := by decide +kernel
theorem dX7_pridesOf_95 : decode cX7_pridesOf 95 = .ok (.iconst 1, 1) := by decide +kernel
theorem dX7_pridesOf_96 : decode cX7_pridesOf 96 = .ok (.iload_n 3, 1) := by decide +kernel
theorem dX7_pridesOf_97 : decode cX7_pridesOf 97 = .ok (.iconst 1, 1) := by decide +kernel
theorem dX7_pridesOf_98 : decode cX7_pridesOf 98 = .ok (.isub, 1) := by decide +kernel
theorem dX7_pridesOf_99 : decode cX7_pridesOf 99 = .ok (.ishl, 1) := by decide +kernel
theorem dX7_pridesOf_100 : decode cX7_pridesOf 100 = .ok (.goto 4, 3) := by decide +kernel
theorem dX7_pridesOf_103 : decode cX7_pridesOf 103 = .ok (.iconst 0, 1) := by decide +kernel
theorem dX7_pridesOf_104 : decode cX7_pridesOf 104 = .ok (.ior, 1) := by decide +kernel
theorem dX7_pridesOf_105 : decode cX7_pridesOf 105 = .ok (.istore_n 2, 1) := by decide +kernel
theorem dX7_pridesOf_106 : decode cX7_pridesOf 106 = .ok (.iinc 3 1, 3) := by decide +kernel
theorem dX7_pridesOf_109 : decode cX7_pridesOf 109 = .ok (.goto (-105), 3) := by decide +kernel
theorem dX7_pridesOf_112 : decode cX7_pridesOf 112 = .ok (.iload_n 2, 1) := by decide +kernel
theorem dX7_pridesOf_113 : decode cX7_pridesOf 113 = .ok (.ireturn, 1) := by decide +kernel
theorem dX7_tryOf_0 : decode cX7_tryOf 0 = .ok (.aload_n 0, 1) := by decide +kernel
theorem dX7_tryOf_1 : decode cX7_tryOf 1 = .ok (.iload_n 1, 1) := by decide +kernel
theorem dX7_tryOf_2 : decode cX7_tryOf 2 = .ok (.invokevirtual 182, 3) := by decide +kernel
