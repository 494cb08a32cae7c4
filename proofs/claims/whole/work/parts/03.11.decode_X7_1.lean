theorem dX7_dropsAt_38 : decode cX7_dropsAt 38 = .ok (.iadd, 1) := by decide +kernel
theorem dX7_dropsAt_39 : decode cX7_dropsAt 39 = .ok (.istore_n 2, 1) := by decide +kernel
theorem dX7_dropsAt_40 : decode cX7_dropsAt 40 = .ok (.iinc 3 1, 3) := by decide +kernel
theorem dX7_dropsAt_43 : decode cX7_dropsAt 43 = .ok (.goto (-39), 3) := by decide +kernel
theorem dX7_dropsAt_46 : decode cX7_dropsAt 46 = .ok (.iload_n 2, 1) := by decide +kernel
theorem dX7_dropsAt_47 : decode cX7_dropsAt 47 = .ok (.ireturn, 1) := by decide +kernel
theorem dX7_forceOn_0 : decode cX7_forceOn 0 = .ok (.iconst 0, 1) := by decide +kernel
theorem dX7_forceOn_1 : decode cX7_forceOn 1 = .ok (.istore_n 3, 1) := by decide +kernel
theorem dX7_forceOn_2 : decode cX7_forceOn 2 = .ok (.iconst 0, 1) := by decide +kernel
theorem dX7_forceOn_3 : decode cX7_forceOn 3 = .ok (.istore 4, 2) := by decide +kernel
theorem dX7_forceOn_5 : decode cX7_forceOn 5 = .ok (.iload 4, 2) := by decide +kernel
theorem dX7_forceOn_7 : decode cX7_forceOn 7 = .ok (.aload_n 0, 1) := by decide +kernel
theorem dX7_forceOn_8 : decode cX7_forceOn 8 = .ok (.getfield 109, 3) := by decide +kernel
theorem dX7_forceOn_11 : decode cX7_forceOn 11 = .ok (.if_icmp .ge 30, 3) := by decide +kernel
theorem dX7_forceOn_14 : decode cX7_forceOn 14 = .ok (.iload_n 3, 1) := by decide +kernel
theorem dX7_forceOn_15 : decode cX7_forceOn 15 = .ok (.aload_n 1, 1) := by decide +kernel
theorem dX7_forceOn_16 : decode cX7_forceOn 16 = .ok (.iload 4, 2) := by decide +kernel
theorem dX7_forceOn_18 : decode cX7_forceOn 18 = .ok (.iaload, 1) := by decide +kernel
theorem dX7_forceOn_19 : decode cX7_forceOn 19 = .ok (.aload_n 0, 1) := by decide +kernel
theorem dX7_forceOn_20 : decode cX7_forceOn 20 = .ok (.getfield 16, 3) := by decide +kernel
theorem dX7_forceOn_23 : decode cX7_forceOn 23 = .ok (.iload 4, 2) := by decide +kernel
theorem dX7_forceOn_25 : decode cX7_forceOn 25 = .ok (.iaload, 1) := by decide +kernel
theorem dX7_forceOn_26 : decode cX7_forceOn 26 = .ok (.iload_n 2, 1) := by decide +kernel
theorem dX7_forceOn_27 : decode cX7_forceOn 27 = .ok (.invokestatic 148, 3) := by decide +kernel
theorem dX7_forceOn_30 : decode cX7_forceOn 30 = .ok (.invokestatic 152, 3) := by decide +kernel
theorem dX7_forceOn_33 : decode cX7_forceOn 33 = .ok (.iadd, 1) := by decide +kernel
theorem dX7_forceOn_34 : decode cX7_forceOn 34 = .ok (.istore_n 3, 1) := by decide +kernel
theorem dX7_forceOn_35 : decode cX7_forceOn 35 = .ok (.iinc 4 1, 3) := by decide +kernel
theorem dX7_forceOn_38 : decode cX7_forceOn 38 = .ok (.goto (-33), 3) := by decide +kernel
theorem dX7_forceOn_41 : decode cX7_forceOn 41 = .ok (.iload_n 3, 1) := by decide +kernel
theorem dX7_forceOn_42 : decode cX7_forceOn 42 = .ok (.ireturn, 1) := by decide +kernel
theorem dX7_forceAt_0 : decode cX7_forceAt 0 = .ok (.aload_n 0, 1) := by decide +kernel
theorem dX7_forceAt_1 : decode cX7_forceAt 1 = .ok (.aload_n 0, 1) := by decide +kernel
theorem dX7_forceAt_2 : decode cX7_forceAt 2 = .ok (.getfield 19, 3) := by decide +kernel
theorem dX7_forceAt_5 : decode cX7_forceAt 5 = .ok (.iload_n 1, 1) := by decide +kernel
theorem dX7_forceAt_6 : decode cX7_forceAt 6 = .ok (.invokevirtual 155, 3) := by decide +kernel
theorem dX7_forceAt_9 : decode cX7_forceAt 9 = .ok (.aload_n 0, 1) := by decide +kernel
theorem dX7_forceAt_10 : decode cX7_forceAt 10 = .ok (.iload_n 1, 1) := by decide +kernel
theorem dX7_forceAt_11 : decode cX7_forceAt 11 = .ok (.invokevirtual 159, 3) := by decide +kernel
theorem dX7_forceAt_14 : decode cX7_forceAt 14 = .ok (.iadd, 1) := by decide +kernel
theorem dX7_forceAt_15 : decode cX7_forceAt 15 = .ok (.ireturn, 1) := by decide +kernel
theorem dX7_wouldOn_0 : decode cX7_wouldOn 0 = .ok (.iconst 0, 1) := by decide +kernel
theorem dX7_wouldOn_1 : decode cX7_wouldOn 1 = .ok (.istore_n 3, 1) := by decide +kernel
theorem dX7_wouldOn_2 : decode cX7_wouldOn 2 = .ok (.iconst 0, 1) := by decide +kernel
theorem dX7_wouldOn_3 : decode cX7_wouldOn 3 = .ok (.istore 4, 2) := by decide +kernel
theorem dX7_wouldOn_5 : decode cX7_wouldOn 5 = .ok (.iload 4, 2) := by decide +kernel
theorem dX7_wouldOn_7 : decode cX7_wouldOn 7 = .ok (.aload_n 0, 1) := by decide +kernel
theorem dX7_wouldOn_8 : decode cX7_wouldOn 8 = .ok (.getfield 112, 3) := by decide +kernel
theorem dX7_wouldOn_11 : decode cX7_wouldOn 11 = .ok (.if_icmp .ge 56, 3) := by decide +kernel
theorem dX7_wouldOn_14 : decode cX7_wouldOn 14 = .ok (.aload_n 0, 1) := by decide +kernel
theorem dX7_wouldOn_15 : decode cX7_wouldOn 15 = .ok (.aload_n 1, 1) := by decide +kernel
theorem dX7_wouldOn_16 : decode cX7_wouldOn 16 = .ok (.iload 4, 2) := by decide +kernel
theorem dX7_wouldOn_18 : decode cX7_wouldOn 18 = .ok (.invokevirtual 155, 3) := by decide +kernel
theorem dX7_wouldOn_21 : decode cX7_wouldOn 21 = .ok (.iload_n 2, 1) := by decide +kernel
theorem dX7_wouldOn_22 : decode cX7_wouldOn 22 = .ok (.ifCond .eq 12, 3) := by decide +kernel
theorem dX7_wouldOn_25 : decode cX7_wouldOn 25 = .ok (.aload_n 0, 1) := by decide +kernel
theorem dX7_wouldOn_26 : decode cX7_wouldOn 26 = .ok (.iload 4, 2) := by decide +kernel
theorem dX7_wouldOn_28 : decode cX7_wouldOn 28 = .ok (.invokevirtual 159, 3) := by decide +kernel
theorem dX7_wouldOn_31 : decode cX7_wouldOn 31 = .ok (.goto 4, 3) := by decide +kernel
theorem dX7_wouldOn_34 : decode cX7_wouldOn 34 = .ok (.iconst 0, 1) := by decide +kernel
theorem dX7_wouldOn_35 : decode cX7_wouldOn 35 = .ok (.iadd, 1) := by decide +kernel
theorem dX7_wouldOn_36 : decode cX7_wouldOn 36 = .ok (.istore 5, 2) := by decide +kernel
theorem dX7_wouldOn_38 : decode cX7_wouldOn 38 = .ok (.iload_n 3, 1) := by decide +kernel
theorem dX7_wouldOn_39 : decode cX7_wouldOn 39 = .ok (.iload 5, 2) := by decide +kernel
theorem dX7_wouldOn_41 : decode cX7_wouldOn 41 = .ok (.aload_n 0, 1) := by decide +kernel
theorem dX7_wouldOn_42 : decode cX7_wouldOn 42 = .ok (.getfield 22, 3) := by decide +kernel
theorem dX7_wouldOn_45 : decode cX7_wouldOn 45 = .ok (.iload 4, 2) := by decide +kernel
theorem dX7_wouldOn_47 : decode cX7_wouldOn 47 = .ok (.iaload, 1) := by decide +kernel
theorem dX7_wouldOn_48 : decode cX7_wouldOn 48 = .ok (.if_icmp .lt 10, 3) := by decide +kernel
theorem dX7_wouldOn_51 : decode cX7_wouldOn 51 = .ok (.iconst 1, 1) := by decide +kernel
theorem dX7_wouldOn_52 : decode cX7_wouldOn 52 = .ok (.iload 4, 2) := by decide +kernel
theorem dX7_wouldOn_54 : decode cX7_wouldOn 54 = .ok (.ishl, 1) := by decide +kernel
theorem dX7_wouldOn_55 : decode cX7_wouldOn 55 = .ok (.goto 4, 3) := by decide +kernel
theorem dX7_wouldOn_58 : decode cX7_wouldOn 58 = .ok (.iconst 0, 1) := by decide +kernel
theorem dX7_wouldOn_59 : decode cX7_wouldOn 59 = .ok (.ior, 1) := by decide +kernel
theorem dX7_wouldOn_60 : decode cX7_wouldOn 60 = .ok (.istore_n 3, 1) := by decide +kernel
theorem dX7_wouldOn_61 : decode cX7_wouldOn 61 = .ok (.iinc 4 1, 3) := by decide +kernel
theorem dX7_wouldOn_64 : decode cX7_wouldOn 64 = .ok (.goto (-59), 3) := by decide +kernel
theorem dX7_wouldOn_67 : decode cX7_wouldOn 67 = .ok (.iload_n 3, 1) := by decide +kernel
theorem dX7_wouldOn_68 : decode cX7_wouldOn 68 = .ok (.ireturn, 1) := by decide +kernel
theorem dX7_wouldNow_0 : decode cX7_wouldNow 0 = .ok (.aload_n 0, 1) := by decide +kernel
theorem dX7_wouldNow_1 : decode cX7_wouldNow 1 = .ok (.aload_n 0, 1) := by decide +kernel
theorem dX7_wouldNow_2 : decode cX7_wouldNow 2 = .ok (.getfield 19, 3) := by decide +kernel
theorem dX7_wouldNow_5 : decode cX7_wouldNow 5 = .ok (.iconst 1, 1) := by decide +kernel
theorem dX7_wouldNow_6 : decode cX7_wouldNow 6 = .ok (.invokevirtual 162, 3) := by decide +kernel
theorem dX7_wouldNow_9 : decode cX7_wouldNow 9 = .ok (.ireturn, 1) := by decide +kernel
theorem dX7_seatOf_0 : decode cX7_seatOf 0 = .ok (.aload_n 0, 1) := by decide +kernel
theorem dX7_seatOf_1 : decode cX7_seatOf 1 = .ok (.getfield 16, 3) := by decide +kernel
theorem dX7_seatOf_4 : decode cX7_seatOf 4 = .ok (.iload_n 1, 1) := by decide +kernel
theorem dX7_seatOf_5 : decode cX7_seatOf 5 = .ok (.iaload, 1) := by decide +kernel
theorem dX7_seatOf_6 : decode cX7_seatOf 6 = .ok (.istore_n 3, 1) := by decide +kernel
theorem dX7_seatOf_7 : decode cX7_seatOf 7 = .ok (.iconst (-1), 1) := by decide +kernel
theorem dX7_seatOf_8 : decode cX7_seatOf 8 = .ok (.istore 4, 2) := by decide +kernel
theorem dX7_seatOf_10 : decode cX7_seatOf 10 = .ok (.iconst (-1), 1) := by decide +kernel
theorem dX7_seatOf_11 : decode cX7_seatOf 11 = .ok (.istore 5, 2) := by decide +kernel
theorem dX7_seatOf_13 : decode cX7_seatOf 13 = .ok (.iconst 0, 1) := by decide +kernel
theorem dX7_seatOf_14 : decode cX7_seatOf 14 = .ok (.istore 6, 2) := by decide +kernel
theorem dX7_seatOf_16 : decode cX7_seatOf 16 = .ok (.iload 6, 2) := by decide +kernel
theorem dX7_seatOf_18 : decode cX7_seatOf 18 = .ok (.bipush 6, 2) := by decide +kernel
theorem dX7_seatOf_20 : decode cX7_seatOf 20 = .ok (.if_icmp .ge 58, 3) := by decide +kernel
theorem dX7_seatOf_23 : decode cX7_seatOf 23 = .ok (.aload_n 0, 1) := by decide +kernel
theorem dX7_seatOf_24 : decode cX7_seatOf 24 = .ok (.getfield 16, 3) := by decide +kernel
theorem dX7_seatOf_27 : decode cX7_seatOf 27 = .ok (.iload_n 1, 1) := by decide +kernel
theorem dX7_seatOf_28 : decode cX7_seatOf 28 = .ok (.iload 6, 2) := by decide +kernel
theorem dX7_seatOf_30 : decode cX7_seatOf 30 = .ok (.iastore, 1) := by decide +kernel
theorem dX7_seatOf_31 : decode cX7_seatOf 31 = .ok (.aload_n 0, 1) := by decide +kernel
theorem dX7_seatOf_32 : decode cX7_seatOf 32 = .ok (.invokevirtual 166, 3) := by decide +kernel
theorem dX7_seatOf_35 : decode cX7_seatOf 35 = .ok (.invokestatic 169, 3) := by decide +kernel
theorem dX7_seatOf_38 : decode cX7_seatOf 38 = .ok (.istore 7, 2) := by decide +kernel
theorem dX7_seatOf_40 : decode cX7_seatOf 40 = .ok (.iload 7, 2) := by decide +kernel
theorem dX7_seatOf_42 : decode cX7_seatOf 42 = .ok (.iload 5, 2) := by decide +kernel
theorem dX7_seatOf_44 : decode cX7_seatOf 44 = .ok (.if_icmp .le 8, 3) := by decide +kernel
theorem dX7_seatOf_47 : decode cX7_seatOf 47 = .ok (.iload 6, 2) := by decide +kernel
theorem dX7_seatOf_49 : decode cX7_seatOf 49 = .ok (.goto 5, 3) := by decide +kernel
theorem dX7_seatOf_52 : decode cX7_seatOf 52 = .ok (.iload 4, 2) := by decide +kernel
theorem dX7_seatOf_54 : decode cX7_seatOf 54 = .ok (.istore 4, 2) := by decide +kernel
theorem dX7_seatOf_56 : decode cX7_seatOf 56 = .ok (.iload 7, 2) := by decide +kernel
theorem dX7_seatOf_58 : decode cX7_seatOf 58 = .ok (.iload 5, 2) := by decide +kernel
theorem dX7_seatOf_60 : decode cX7_seatOf 60 = .ok (.if_icmp .le 8, 3) := by decide +kernel
theorem dX7_seatOf_63 : decode cX7_seatOf 63 = .ok (.iload 7, 2) := by decide +kernel
theorem dX7_seatOf_65 : decode cX7_seatOf 65 = .ok (.goto 5, 3) := by decide +kernel
theorem dX7_seatOf_68 : decode cX7_seatOf 68 = .ok (.iload 5, 2) := by decide +kernel
theorem dX7_seatOf_70 : decode cX7_seatOf 70 = .ok (.istore 5, 2) := by decide +kernel
theorem dX7_seatOf_72 : decode cX7_seatOf 72 = .ok (.iinc 6 1, 3) := by decide +kernel
theorem dX7_seatOf_75 : decode cX7_seatOf 75 = .ok (.goto (-59), 3) := by decide +kernel
theorem dX7_seatOf_78 : decode cX7_seatOf 78 = .ok (.aload_n 0, 1) := by decide +kernel
theorem dX7_seatOf_79 : decode cX7_seatOf 79 = .ok (.getfield 16, 3) := by decide +kernel
theorem dX7_seatOf_82 : decode cX7_seatOf 82 = .ok (.iload_n 1, 1) := by decide +kernel
theorem dX7_seatOf_83 : decode cX7_seatOf 83 = .ok (.iload_n 3, 1) := by decide +kernel
theorem dX7_seatOf_84 : decode cX7_seatOf 84 = .ok (.iastore, 1) := by decide +kernel
theorem dX7_seatOf_85 : decode cX7_seatOf 85 = .ok (.iload_n 2, 1) := by decide +kernel
theorem dX7_seatOf_86 : decode cX7_seatOf 86 = .ok (.iconst 5, 1) := by decide +kernel
theorem dX7_seatOf_87 : decode cX7_seatOf 87 = .ok (.if_icmp .ne 8, 3) := by decide +kernel
theorem dX7_seatOf_90 : decode cX7_seatOf 90 = .ok (.iload 4, 2) := by decide +kernel
theorem dX7_seatOf_92 : decode cX7_seatOf 92 = .ok (.goto 5, 3) := by decide +kernel
theorem dX7_seatOf_95 : decode cX7_seatOf 95 = .ok (.iload 5, 2) := by decide +kernel
theorem dX7_seatOf_97 : decode cX7_seatOf 97 = .ok (.ireturn, 1) := by decide +kernel
theorem dX7_growsOf_0 : decode cX7_growsOf 0 = .ok (.aload_n 0, 1) := by decide +kernel
theorem dX7_growsOf_1 : decode cX7_growsOf 1 = .ok (.getfield 13, 3) := by decide +kernel
theorem dX7_growsOf_4 : decode cX7_growsOf 4 = .ok (.iconst 3, 1) := by decide +kernel
theorem dX7_growsOf_5 : decode cX7_growsOf 5 = .ok (.iload_n 1, 1) := by decide +kernel
theorem dX7_growsOf_6 : decode cX7_growsOf 6 = .ok (.imul, 1) := by decide +kernel
theorem dX7_growsOf_7 : decode cX7_growsOf 7 = .ok (.iaload, 1) := by decide +kernel
theorem dX7_growsOf_8 : decode cX7_growsOf 8 = .ok (.aload_n 0, 1) := by decide +kernel
theorem dX7_growsOf_9 : decode cX7_growsOf 9 = .ok (.getfield 13, 3) := by decide +kernel
theorem dX7_growsOf_12 : decode cX7_growsOf 12 = .ok (.iconst 3, 1) := by decide +kernel
theorem dX7_growsOf_13 : decode cX7_growsOf 13 = .ok (.iload_n 1, 1) := by decide +kernel
theorem dX7_growsOf_14 : decode cX7_growsOf 14 = .ok (.imul, 1) := by decide +kernel
theorem dX7_growsOf_15 : decode cX7_growsOf 15 = .ok (.iconst 1, 1) := by decide +kernel
theorem dX7_growsOf_16 : decode cX7_growsOf 16 = .ok (.iadd, 1) := by decide +kernel
theorem dX7_growsOf_17 : decode cX7_growsOf 17 = .ok (.iaload, 1) := by decide +kernel
theorem dX7_growsOf_18 : decode cX7_growsOf 18 = .ok (.iload_n 2, 1) := by decide +kernel
theorem dX7_growsOf_19 : decode cX7_growsOf 19 = .ok (.invokestatic 141, 3) := by decide +kernel
theorem dX7_growsOf_22 : decode cX7_growsOf 22 = .ok (.istore_n 3, 1) := by decide +kernel
theorem dX7_growsOf_23 : decode cX7_growsOf 23 = .ok (.aload_n 0, 1) := by decide +kernel
theorem dX7_growsOf_24 : decode cX7_growsOf 24 = .ok (.getfield 19, 3) := by decide +kernel
theorem dX7_growsOf_27 : decode cX7_growsOf 27 = .ok (.iload_n 1, 1) := by decide +kernel
theorem dX7_growsOf_28 : decode cX7_growsOf 28 = .ok (.iaload, 1) := by decide +kernel
theorem dX7_growsOf_29 : decode cX7_growsOf 29 = .ok (.iload_n 3, 1) := by decide +kernel
theorem dX7_growsOf_30 : decode cX7_growsOf 30 = .ok (.iadd, 1) := by decide +kernel
theorem dX7_growsOf_31 : decode cX7_growsOf 31 = .ok (.invokestatic 145, 3) := by decide +kernel
theorem dX7_growsOf_34 : decode cX7_growsOf 34 = .ok (.aload_n 0, 1) := by decide +kernel
theorem dX7_growsOf_35 : decode cX7_growsOf 35 = .ok (.getfield 19, 3) := by decide +kernel
theorem dX7_growsOf_38 : decode cX7_growsOf 38 = .ok (.iload_n 1, 1) := by decide +kernel
theorem dX7_growsOf_39 : decode cX7_growsOf 39 = .ok (.iaload, 1) := by decide +kernel
theorem dX7_growsOf_40 : decode cX7_growsOf 40 = .ok (.isub, 1) := by decide +kernel
theorem dX7_growsOf_41 : decode cX7_growsOf 41 = .ok (.ireturn, 1) := by decide +kernel
theorem dX7_tellPerson_0 : decode cX7_tellPerson 0 = .ok (.iload_n 2, 1) := by decide +kernel
theorem dX7_tellPerson_1 : decode cX7_tellPerson 1 = .ok (.i2l, 1) := by decide +kernel
theorem dX7_tellPerson_2 : decode cX7_tellPerson 2 = .ok (.ldc2_w 172, 3) := by decide +kernel
theorem dX7_tellPerson_5 : decode cX7_tellPerson 5 = .ok (.ldc2_w 174, 3) := by decide +kernel
theorem dX7_tellPerson_8 : decode cX7_tellPerson 8 = .ok (.invokestatic 76, 3) := by decide +kernel
theorem dX7_tellPerson_11 : decode cX7_tellPerson 11 = .ok (.ifCond .eq 13, 3) := by decide +kernel
theorem dX7_tellPerson_14 : decode cX7_tellPerson 14 = .ok (.aload_n 0, 1) := by decide +kernel
theorem dX7_tellPerson_15 : decode cX7_tellPerson 15 = .ok (.iload_n 1, 1) := by decide +kernel
theorem dX7_tellPerson_16 : decode cX7_tellPerson 16 = .ok (.iload_n 2, 1) := by decide +kernel
theorem dX7_tellPerson_17 : decode cX7_tellPerson 17 = .ok (.bipush 10, 2) := by decide +kernel
theorem dX7_tellPerson_19 : decode cX7_tellPerson 19 = .ok (.isub, 1) := by decide +kernel
theorem dX7_tellPerson_20 : decode cX7_tellPerson 20 = .ok (.invokevirtual 176, 3) := by decide +kernel
theorem dX7_tellPerson_23 : decode cX7_tellPerson 23 = .ok (.ireturn, 1) := by decide +kernel
theorem dX7_tellPerson_24 : decode cX7_tellPerson 24 = .ok (.iload_n 2, 1) := by decide +kernel
theorem dX7_tellPerson_25 : decode cX7_tellPerson 25 = .ok (.tableswitch 106 0 8 #[51, 51, 62, 69, 76, 87, 87, 94, 100], 51) := by decide +kernel
theorem dX7_tellPerson_76 : decode cX7_tellPerson 76 = .ok (.aload_n 0, 1) := by decide +kernel
theorem dX7_tellPerson_77 : decode cX7_tellPerson 77 = .ok (.getfield 13, 3) := by decide +kernel
theorem dX7_tellPerson_80 : decode cX7_tellPerson 80 = .ok (.iconst 3, 1) := by decide +kernel
theorem dX7_tellPerson_81 : decode cX7_tellPerson 81 = .ok (.iload_n 1, 1) := by decide +kernel
theorem dX7_tellPerson_82 : decode cX7_tellPerson 82 = .ok (.imul, 1) := by decide +kernel
theorem dX7_tellPerson_83 : decode cX7_tellPerson 83 = .ok (.iload_n 2, 1) := by decide +kernel
theorem dX7_tellPerson_84 : decode cX7_tellPerson 84 = .ok (.iadd, 1) := by decide +kernel
theorem dX7_tellPerson_85 : decode cX7_tellPerson 85 = .ok (.iaload, 1) := by decide +kernel
theorem dX7_tellPerson_86 : decode cX7_tellPerson 86 = .ok (.ireturn, 1) := by decide +kernel
theorem dX7_tellPerson_87 : decode cX7_tellPerson 87 = .ok (.aload_n 0, 1) := by decide +kernel
theorem dX7_tellPerson_88 : decode cX7_tellPerson 88 = .ok (.getfield 16, 3) := by decide +kernel
theorem dX7_tellPerson_91 : decode cX7_tellPerson 91 = .ok (.iload_n 1, 1) := by decide +kernel
theorem dX7_tellPerson_92 : decode cX7_tellPerson 92 = .ok (.iaload, 1) := by decide +kernel
theorem dX7_tellPerson_93 : decode cX7_tellPerson 93 = .ok (.ireturn, 1) := by decide +kernel
theorem dX7_tellPerson_94 : decode cX7_tellPerson 94 = .ok (.aload_n 0, 1) := by decide +kernel
theorem dX7_tellPerson_95 : decode cX7_tellPerson 95 = .ok (.getfield 19, 3) := by decide +kernel
theorem dX7_tellPerson_98 : decode cX7_tellPerson 98 = .ok (.iload_n 1, 1) := by decide +kernel
theorem dX7_tellPerson_99 : decode cX7_tellPerson 99 = .ok (.iaload, 1) := by decide +kernel
theorem dX7_tellPerson_100 : decode cX7_tellPerson 100 = .ok (.ireturn, 1) := by decide +kernel
theorem dX7_tellPerson_101 : decode cX7_tellPerson 101 = .ok (.aload_n 0, 1) := by decide +kernel
theorem dX7_tellPerson_102 : decode cX7_tellPerson 102 = .ok (.getfield 13, 3) := by decide +kernel
theorem dX7_tellPerson_105 : decode cX7_tellPerson 105 = .ok (.iconst 3, 1) := by decide +kernel
theorem dX7_tellPerson_106 : decode cX7_tellPerson 106 = .ok (.iload_n 1, 1) := by decide +kernel
theorem dX7_tellPerson_107 : decode cX7_tellPerson 107 = .ok (.imul, 1) := by decide +kernel
theorem dX7_tellPerson_108 : decode cX7_tellPerson 108 = .ok (.iconst 2, 1) := by decide +kernel
theorem dX7_tellPerson_109 : decode cX7_tellPerson 109 = .ok (.iadd, 1) := by decide +kernel
theorem dX7_tellPerson_110 : decode cX7_tellPerson 110 = .ok (.iaload, 1) := by decide +kernel
theorem dX7_tellPerson_111 : decode cX7_tellPerson 111 = .ok (.ireturn, 1) := by decide +kernel
theorem dX7_tellPerson_112 : decode cX7_tellPerson 112 = .ok (.aload_n 0, 1) := by decide +kernel
theorem dX7_tellPerson_113 : decode cX7_tellPerson 113 = .ok (.iload_n 1, 1) := by decide +kernel
theorem dX7_tellPerson_114 : decode cX7_tellPerson 114 = .ok (.iload_n 2, 1) := by decide +kernel
theorem dX7_tellPerson_115 : decode cX7_tellPerson 115 = .ok (.invokevirtual 179, 3) := by decide +kernel
theorem dX7_tellPerson_118 : decode cX7_tellPerson 118 = .ok (.ireturn, 1) := by decide +kernel
theorem dX7_tellPerson_119 : decode cX7_tellPerson 119 = .ok (.aload_n 0, 1) := by decide +kernel
theorem dX7_tellPerson_120 : decode cX7_tellPerson 120 = .ok (.iload_n 1, 1) := by decide +kernel
theorem dX7_tellPerson_121 : decode cX7_tellPerson 121 = .ok (.invokevirtual 182, 3) := by decide +kernel
theorem dX7_tellPerson_124 : decode cX7_tellPerson 124 = .ok (.ireturn, 1) := by decide +kernel
theorem dX7_tellPerson_125 : decode cX7_tellPerson 125 = .ok (.aload_n 0, 1) := by decide +kernel
theorem dX7_tellPerson_126 : decode cX7_tellPerson 126 = .ok (.iload_n 1, 1) := by decide +kernel
theorem dX7_tellPerson_127 : decode cX7_tellPerson 127 = .ok (.invokevirtual 185, 3) := by decide +kernel
theorem dX7_tellPerson_130 : decode cX7_tellPerson 130 = .ok (.ireturn, 1) := by decide +kernel
theorem dX7_tellPerson_131 : decode cX7_tellPerson 131 = .ok (.bipush (-102), 2) := by decide +kernel
theorem dX7_tellPerson_133 : decode cX7_tellPerson 133 = .ok (.ireturn, 1) := by decide +kernel
theorem dX7_person_0 : decode cX7_person 0 = .ok (.aload_n 0, 1) := by decide +kernel
theorem dX7_person_1 : decode cX7_person 1 = .ok (.iload_n 1, 1) := by decide +kernel
theorem dX7_person_2 : decode cX7_person 2 = .ok (.invokevirtual 188, 3) := by decide +kernel
theorem dX7_person_5 : decode cX7_person 5 = .ok (.ifCond .eq 12, 3) := by decide +kernel
theorem dX7_person_8 : decode cX7_person 8 = .ok (.aload_n 0, 1) := by decide +kernel
theorem dX7_person_9 : decode cX7_person 9 = .ok (.iload_n 1, 1) := by decide +kernel
theorem dX7_person_10 : decode cX7_person 10 = .ok (.iload_n 2, 1) := by decide +kernel
theorem dX7_person_11 : decode cX7_person 11 = .ok (.invokevirtual 191, 3) := by decide +kernel
theorem dX7_person_14 : decode cX7_person 14 = .ok (.goto 5, 3) := by decide +kernel
theorem dX7_person_17 : decode cX7_person 17 = .ok (.bipush (-101), 2) := by decide +kernel
theorem dX7_person_19 : decode cX7_person 19 = .ok (.ireturn, 1) := by decide +kernel
theorem dX7_as_0 : decode cX7_as 0 = .ok (.aload_n 0, 1) := by decide +kernel
theorem dX7_as_1 : decode cX7_as 1 = .ok (.iload_n 1, 1) := by decide +kernel
theorem dX7_as_2 : decode cX7_as 2 = .ok (.invokevirtual 188, 3) := by decide +kernel
theorem dX7_as_5 : decode cX7_as 5 = .ok (.ifCond .ne 6, 3) := by decide +kernel
theorem dX7_as_8 : decode cX7_as 8 = .ok (.bipush (-101), 2) := by decide +kernel
theorem dX7_as_10 : decode cX7_as 10 = .ok (.ireturn, 1) := by decide +kernel
theorem dX7_as_11 : decode cX7_as 11 = .ok (.iload_n 2, 1) := by decide +kernel
theorem dX7_as_12 : decode cX7_as 12 = .ok (.i2l, 1) := by decide +kernel
theorem dX7_as_13 : decode cX7_as 13 = .ok (.lconst 0, 1) := by decide +kernel
theorem dX7_as_14 : decode cX7_as 14 = .ok (.ldc2_w 194, 3) := by decide +kernel
theorem dX7_as_17 : decode cX7_as 17 = .ok (.invokestatic 76, 3) := by decide +kernel
theorem dX7_as_20 : decode cX7_as 20 = .ok (.ifCond .ne 6, 3) := by decide +kernel
theorem dX7_as_23 : decode cX7_as 23 = .ok (.bipush (-102), 2) := by decide +kernel
theorem dX7_as_25 : decode cX7_as 25 = .ok (.ireturn, 1) := by decide +kernel
theorem dX7_as_26 : decode cX7_as 26 = .ok (.aload_n 0, 1) := by decide +kernel
theorem dX7_as_27 : decode cX7_as 27 = .ok (.getfield 13, 3) := by decide +kernel
theorem dX7_as_30 : decode cX7_as 30 = .ok (.iconst 3, 1) := by decide +kernel
theorem dX7_as_31 : decode cX7_as 31 = .ok (.iload_n 1, 1) := by decide +kernel
theorem dX7_as_32 : decode cX7_as 32 = .ok (.imul, 1) := by decide +kernel
theorem dX7_as_33 : decode cX7_as 33 = .ok (.iaload, 1) := by decide +kernel
theorem dX7_as_34 : decode cX7_as 34 = .ok (.istore_n 3, 1) := by decide +kernel
theorem dX7_as_35 : decode cX7_as 35 = .ok (.iload_n 2, 1) := by decide +kernel
theorem dX7_as_36 : decode cX7_as 36 = .ok (.ifCond .eq 18, 3) := by decide +kernel
theorem dX7_as_39 : decode cX7_as 39 = .ok (.iload_n 2, 1) := by decide +kernel
theorem dX7_as_40 : decode cX7_as 40 = .ok (.iload_n 3, 1) := by decide +kernel
theorem dX7_as_41 : decode cX7_as 41 = .ok (.if_icmp .eq 13, 3) := by decide +kernel
theorem dX7_as_44 : decode cX7_as 44 = .ok (.iload_n 2, 1) := by decide +kernel
theorem dX7_as_45 : decode cX7_as 45 = .ok (.iconst 1, 1) := by decide +kernel
theorem dX7_as_46 : decode cX7_as 46 = .ok (.if_icmp .ne 12, 3) := by decide +kernel
theorem dX7_as_49 : decode cX7_as 49 = .ok (.iload_n 3, 1) := by decide +kernel
theorem dX7_as_50 : decode cX7_as 50 = .ok (.iconst 4, 1) := by decide +kernel
theorem dX7_as_51 : decode cX7_as 51 = .ok (.if_icmp .ne 7, 3) := by decide +kernel
theorem dX7_as_54 : decode cX7_as 54 = .ok (.iconst 1, 1) := by decide +kernel
theorem dX7_as_55 : decode cX7_as 55 = .ok (.goto 4, 3) := by decide +kernel
theorem dX7_as_58 : decode cX7_as 58 = .ok (.iconst 0, 1) := by decide +kernel
theorem dX7_as_59 : decode cX7_as 59 = .ok (.istore 4, 2) := by decide +kernel
theorem dX7_as_61 : decode cX7_as 61 = .ok (.iload 4, 2) := by decide +kernel
theorem dX7_as_63 : decode cX7_as 63 = .ok (.ifCond .eq 7, 3) := by decide +kernel
theorem dX7_as_66 : decode cX7_as 66 = .ok (.iload_n 1, 1) := by decide +kernel
theorem dX7_as_67 : decode cX7_as 67 = .ok (.goto 4, 3) := by decide +kernel
theorem dX7_as_70 : decode cX7_as 70 = .ok (.iconst (-1), 1) := by decide +kernel
theorem dX7_as_71 : decode cX7_as 71 = .ok (.ireturn, 1) := by decide +kernel
theorem dX7_inBottles_0 : decode cX7_inBottles 0 = .ok (.iconst 0, 1) := by decide +kernel
theorem dX7_inBottles_1 : decode cX7_inBottles 1 = .ok (.istore_n 2, 1) := by decide +kernel
theorem dX7_inBottles_2 : decode cX7_inBottles 2 = .ok (.iconst 0, 1) := by decide +kernel
theorem dX7_inBottles_3 : decode cX7_inBottles 3 = .ok (.istore_n 3, 1) := by decide +kernel
theorem dX7_inBottles_4 : decode cX7_inBottles 4 = .ok (.iload_n 3, 1) := by decide +kernel
theorem dX7_inBottles_5 : decode cX7_inBottles 5 = .ok (.iconst 4, 1) := by decide +kernel
theorem dX7_inBottles_6 : decode cX7_inBottles 6 = .ok (.if_icmp .ge 24, 3) := by decide +kernel
theorem dX7_inBottles_9 : decode cX7_inBottles 9 = .ok (.iload_n 2, 1) := by decide +kernel
theorem dX7_inBottles_10 : decode cX7_inBottles 10 = .ok (.iload_n 1, 1) := by decide +kernel
theorem dX7_inBottles_11 : decode cX7_inBottles 11 = .ok (.iload_n 3, 1) := by decide +kernel
theorem dX7_inBottles_12 : decode cX7_inBottles 12 = .ok (.ishr, 1) := by decide +kernel
theorem dX7_inBottles_13 : decode cX7_inBottles 13 = .ok (.iconst 1, 1) := by decide +kernel
theorem dX7_inBottles_14 : decode cX7_inBottles 14 = .ok (.iand, 1) := by decide +kernel
theorem dX7_inBottles_15 : decode cX7_inBottles 15 = .ok (.aload_n 0, 1) := by decide +kernel
theorem dX7_inBottles_16 : decode cX7_inBottles 16 = .ok (.getfield 28, 3) := by decide +kernel
theorem dX7_inBottles_19 : decode cX7_inBottles 19 = .ok (.iload_n 3, 1) := by decide +kernel
theorem dX7_inBottles_20 : decode cX7_inBottles 20 = .ok (.iaload, 1) := by decide +kernel
theorem dX7_inBottles_21 : decode cX7_inBottles 21 = .ok (.imul, 1) := by decide +kernel
theorem dX7_inBottles_22 : decode cX7_inBottles 22 = .ok (.iadd, 1) := by decide +kernel
theorem dX7_inBottles_23 : decode cX7_inBottles 23 = .ok (.istore_n 2, 1) := by decide +kernel
theorem dX7_inBottles_24 : decode cX7_inBottles 24 = .ok (.iinc 3 1, 3) := by decide +kernel
theorem dX7_inBottles_27 : decode cX7_inBottles 27 = .ok (.goto (-23), 3) := by decide +kernel
theorem dX7_inBottles_30 : decode cX7_inBottles 30 = .ok (.iload_n 2, 1) := by decide +kernel
theorem dX7_inBottles_31 : decode cX7_inBottles 31 = .ok (.ireturn, 1) := by decide +kernel
theorem dX7_isOfFull_0 : decode cX7_isOfFull 0 = .ok (.iconst 1, 1) := by decide +kernel
theorem dX7_isOfFull_1 : decode cX7_isOfFull 1 = .ok (.istore_n 2, 1) := by decide +kernel
theorem dX7_isOfFull_2 : decode cX7_isOfFull 2 = .ok (.iconst 0, 1) := by decide +kernel
theorem dX7_isOfFull_3 : decode cX7_isOfFull 3 = .ok (.istore_n 3, 1) := by decide +kernel
theorem dX7_isOfFull_4 : decode cX7_isOfFull 4 = .ok (.iload_n 3, 1) := by decide +kernel
theorem dX7_isOfFull_5 : decode cX7_isOfFull 5 = .ok (.iconst 4, 1) := by decide +kernel
theorem dX7_isOfFull_6 : decode cX7_isOfFull 6 = .ok (.if_icmp .ge 36, 3) := by decide +kernel
theorem dX7_isOfFull_9 : decode cX7_isOfFull 9 = .ok (.iload_n 2, 1) := by decide +kernel
theorem dX7_isOfFull_10 : decode cX7_isOfFull 10 = .ok (.ifCond .eq 24, 3) := by decide +kernel
theorem dX7_isOfFull_13 : decode cX7_isOfFull 13 = .ok (.iload_n 1, 1) := by decide +kernel
theorem dX7_isOfFull_14 : decode cX7_isOfFull 14 = .ok (.iload_n 3, 1) := by decide +kernel
theorem dX7_isOfFull_15 : decode cX7_isOfFull 15 = .ok (.ishr, 1) := by decide +kernel
theorem dX7_isOfFull_16 : decode cX7_isOfFull 16 = .ok (.iconst 1, 1) := by decide +kernel
theorem dX7_isOfFull_17 : decode cX7_isOfFull 17 = .ok (.iand, 1) := by decide +kernel
theorem dX7_isOfFull_18 : decode cX7_isOfFull 18 = .ok (.ifCond .eq 12, 3) := by decide +kernel
theorem dX7_isOfFull_21 : decode cX7_isOfFull 21 = .ok (.aload_n 0, 1) := by decide +kernel
theorem dX7_isOfFull_22 : decode cX7_isOfFull 22 = .ok (.getfield 28, 3) := by decide +kernel
theorem dX7_isOfFull_25 : decode cX7_isOfFull 25 = .ok (.iload_n 3, 1) := by decide +kernel
theorem dX7_isOfFull_26 : decode cX7_isOfFull 26 = .ok (.iaload, 1) := by decide +kernel
theorem dX7_isOfFull_27 : decode cX7_isOfFull 27 = .ok (.ifCond .le 7, 3) := by decide +kernel
theorem dX7_isOfFull_30 : decode cX7_isOfFull 30 = .ok (.iconst 1, 1) := by decide +kernel
theorem dX7_isOfFull_31 : decode cX7_isOfFull 31 = .ok (.goto 4, 3) := by decide +kernel
theorem dX7_isOfFull_34 : decode cX7_isOfFull 34 = .ok (.iconst 0, 1) := by decide +kernel
theorem dX7_isOfFull_35 : decode cX7_isOfFull 35 = .ok (.istore_n 2, 1) := by decide +kernel
theorem dX7_isOfFull_36 : decode cX7_isOfFull 36 = .ok (.iinc 3 1, 3) := by decide +kernel
theorem dX7_isOfFull_39 : decode cX7_isOfFull 39 = .ok (.goto (-35), 3) := by decide +kernel
theorem dX7_isOfFull_42 : decode cX7_isOfFull 42 = .ok (.iload_n 2, 1) := by decide +kernel
theorem dX7_isOfFull_43 : decode cX7_isOfFull 43 = .ok (.ireturn, 1) := by decide +kernel
theorem dX7_pourOf_0 : decode cX7_pourOf 0 = .ok (.iconst (-1), 1) := by decide +kernel
theorem dX7_pourOf_1 : decode cX7_pourOf 1 = .ok (.istore_n 2, 1) := by decide +kernel
theorem dX7_pourOf_2 : decode cX7_pourOf 2 = .ok (.aload_n 0, 1) := by decide +kernel
theorem dX7_pourOf_3 : decode cX7_pourOf 3 = .ok (.getfield 22, 3) := by decide +kernel
theorem dX7_pourOf_6 : decode cX7_pourOf 6 = .ok (.iload_n 1, 1) := by decide +kernel
theorem dX7_pourOf_7 : decode cX7_pourOf 7 = .ok (.iaload, 1) := by decide +kernel
theorem dX7_pourOf_8 : decode cX7_pourOf 8 = .ok (.aload_n 0, 1) := by decide +kernel
theorem dX7_pourOf_9 : decode cX7_pourOf 9 = .ok (.iload_n 1, 1) := by decide +kernel
theorem dX7_pourOf_10 : decode cX7_pourOf 10 = .ok (.invokevirtual 196, 3) := by decide +kernel
theorem dX7_pourOf_13 : decode cX7_pourOf 13 = .ok (.isub, 1) := by decide +kernel
theorem dX7_pourOf_14 : decode cX7_pourOf 14 = .ok (.istore_n 3, 1) := by decide +kernel
theorem dX7_pourOf_15 : decode cX7_pourOf 15 = .ok (.iconst 0, 1) := by decide +kernel
theorem dX7_pourOf_16 : decode cX7_pourOf 16 = .ok (.istore 4, 2) := by decide +kernel
theorem dX7_pourOf_18 : decode cX7_pourOf 18 = .ok (.iload 4, 2) := by decide +kernel
theorem dX7_pourOf_20 : decode cX7_pourOf 20 = .ok (.bipush 16, 2) := by decide +kernel
theorem dX7_pourOf_22 : decode cX7_pourOf 22 = .ok (.if_icmp .ge 124, 3) := by decide +kernel
theorem dX7_pourOf_25 : decode cX7_pourOf 25 = .ok (.aload_n 0, 1) := by decide +kernel
theorem dX7_pourOf_26 : decode cX7_pourOf 26 = .ok (.iload 4, 2) := by decide +kernel
theorem dX7_pourOf_28 : decode cX7_pourOf 28 = .ok (.invokevirtual 199, 3) := by decide +kernel
theorem dX7_pourOf_31 : decode cX7_pourOf 31 = .ok (.ifCond .eq 17, 3) := by decide +kernel
theorem dX7_pourOf_34 : decode cX7_pourOf 34 = .ok (.aload_n 0, 1) := by decide +kernel
theorem dX7_pourOf_35 : decode cX7_pourOf 35 = .ok (.iload 4, 2) := by decide +kernel
theorem dX7_pourOf_37 : decode cX7_pourOf 37 = .ok (.invokevirtual 202, 3) := by decide +kernel
theorem dX7_pourOf_40 : decode cX7_pourOf 40 = .ok (.iload_n 3, 1) := by decide +kernel
theorem dX7_pourOf_41 : decode cX7_pourOf 41 = .ok (.if_icmp .lt 7, 3) := by decide +kernel
theorem dX7_pourOf_44 : decode cX7_pourOf 44 = .ok (.iconst 1, 1) := by decide +kernel
theorem dX7_pourOf_45 : decode cX7_pourOf 45 = .ok (.goto 4, 3) := by decide +kernel
theorem dX7_pourOf_48 : decode cX7_pourOf 48 = .ok (.iconst 0, 1) := by decide +kernel
theorem dX7_pourOf_49 : decode cX7_pourOf 49 = .ok (.istore 5, 2) := by decide +kernel
theorem dX7_pourOf_51 : decode cX7_pourOf 51 = .ok (.iload_n 2, 1) := by decide +kernel
theorem dX7_pourOf_52 : decode cX7_pourOf 52 = .ok (.iconst (-1), 1) := by decide +kernel
theorem dX7_pourOf_53 : decode cX7_pourOf 53 = .ok (.if_icmp .eq 19, 3) := by decide +kernel
theorem dX7_pourOf_56 : decode cX7_pourOf 56 = .ok (.iload 4, 2) := by decide +kernel
theorem dX7_pourOf_58 : decode cX7_pourOf 58 = .ok (.invokestatic 169, 3) := by decide +kernel
theorem dX7_pourOf_61 : decode cX7_pourOf 61 = .ok (.iload_n 2, 1) := by decide +kernel
theorem dX7_pourOf_62 : decode cX7_pourOf 62 = .ok (.invokestatic 169, 3) := by decide +kernel
theorem dX7_pourOf_65 : decode cX7_pourOf 65 = .ok (.if_icmp .ge 7, 3) := by decide +kernel
theorem dX7_pourOf_68 : decode cX7_pourOf 68 = .ok (.iconst 1, 1) := by decide +kernel
theorem dX7_pourOf_69 : decode cX7_pourOf 69 = .ok (.goto 4, 3) := by decide +kernel
theorem dX7_pourOf_72 : decode cX7_pourOf 72 = .ok (.iconst 0, 1) := by decide +kernel
theorem dX7_pourOf_73 : decode cX7_pourOf 73 = .ok (.istore 6, 2) := by decide +kernel
theorem dX7_pourOf_75 : decode cX7_pourOf 75 = .ok (.iload_n 2, 1) := by decide +kernel
theorem dX7_pourOf_76 : decode cX7_pourOf 76 = .ok (.iconst (-1), 1) := by decide +kernel
theorem dX7_pourOf_77 : decode cX7_pourOf 77 = .ok (.if_icmp .eq 33, 3) := by decide +kernel
theorem dX7_pourOf_80 : decode cX7_pourOf 80 = .ok (.iload 4, 2) := by decide +kernel
theorem dX7_pourOf_82 : decode cX7_pourOf 82 = .ok (.invokestatic 169, 3) := by decide +kernel
theorem dX7_pourOf_85 : decode cX7_pourOf 85 = .ok (.iload_n 2, 1) := by decide +kernel
theorem dX7_pourOf_86 : decode cX7_pourOf 86 = .ok (.invokestatic 169, 3) := by decide +kernel
theorem dX7_pourOf_89 : decode cX7_pourOf 89 = .ok (.if_icmp .ne 21, 3) := by decide +kernel
theorem dX7_pourOf_92 : decode cX7_pourOf 92 = .ok (.aload_n 0, 1) := by decide +kernel
theorem dX7_pourOf_93 : decode cX7_pourOf 93 = .ok (.iload 4, 2) := by decide +kernel
theorem dX7_pourOf_95 : decode cX7_pourOf 95 = .ok (.invokevirtual 202, 3) := by decide +kernel
theorem dX7_pourOf_98 : decode cX7_pourOf 98 = .ok (.aload_n 0, 1) := by decide +kernel
theorem dX7_pourOf_99 : decode cX7_pourOf 99 = .ok (.iload_n 2, 1) := by decide +kernel
theorem dX7_pourOf_100 : decode cX7_pourOf 100 = .ok (.invokevirtual 202, 3) := by decide +kernel
theorem dX7_pourOf_103 : decode cX7_pourOf 103 = .ok (.if_icmp .ge 7, 3) := by decide +kernel
theorem dX7_pourOf_106 : decode cX7_pourOf 106 = .ok (.iconst 1, 1) := by decide +kernel
theorem dX7_pourOf_107 : decode cX7_pourOf 107 = .ok (.goto 4, 3) := by decide +kernel
theorem dX7_pourOf_110 : decode cX7_pourOf 110 = .ok (.iconst 0, 1) := by decide +kernel
theorem dX7_pourOf_111 : decode cX7_pourOf 111 = .ok (.istore 7, 2) := by decide +kernel
theorem dX7_pourOf_113 : decode cX7_pourOf 113 = .ok (.iload 5, 2) := by decide +kernel
theorem dX7_pourOf_115 : decode cX7_pourOf 115 = .ok (.ifCond .eq 23, 3) := by decide +kernel
theorem dX7_pourOf_118 : decode cX7_pourOf 118 = .ok (.iload_n 2, 1) := by decide +kernel
theorem dX7_pourOf_119 : decode cX7_pourOf 119 = .ok (.iconst (-1), 1) := by decide +kernel
theorem dX7_pourOf_120 : decode cX7_pourOf 120 = .ok (.if_icmp .eq 13, 3) := by decide +kernel
theorem dX7_pourOf_123 : decode cX7_pourOf 123 = .ok (.iload 6, 2) := by decide +kernel
theorem dX7_pourOf_125 : decode cX7_pourOf 125 = .ok (.ifCond .ne 8, 3) := by decide +kernel
theorem dX7_pourOf_128 : decode cX7_pourOf 128 = .ok (.iload 7, 2) := by decide +kernel
theorem dX7_pourOf_130 : decode cX7_pourOf 130 = .ok (.ifCond .eq 8, 3) := by decide +kernel
theorem dX7_pourOf_133 : decode cX7_pourOf 133 = .ok (.iload 4, 2) := by decide +kernel
theorem dX7_pourOf_135 : decode cX7_pourOf 135 = .ok (.goto 4, 3) := by decide +kernel
theorem dX7_pourOf_138 : decode cX7_pourOf 138 = .ok (.iload_n 2, 1) := by decide +kernel
theorem dX7_pourOf_139 : decode cX7_pourOf 139 = .ok (.istore_n 2, 1) := by decide +kernel
theorem dX7_pourOf_140 : decode cX7_pourOf 140 = .ok (.iinc 4 1, 3) := by decide +kernel
theorem dX7_pourOf_143 : decode cX7_pourOf 143 = .ok (.goto (-125), 3) := by decide +kernel
theorem dX7_pourOf_146 : decode cX7_pourOf 146 = .ok (.iload_n 2, 1) := by decide +kernel
theorem dX7_pourOf_147 : decode cX7_pourOf 147 = .ok (.ireturn, 1) := by decide +kernel
theorem dX7_oddsUp_0 : decode cX7_oddsUp 0 = .ok (.iconst 0, 1) := by decide +kernel
theorem dX7_oddsUp_1 : decode cX7_oddsUp 1 = .ok (.istore_n 2, 1) := by decide +kernel
theorem dX7_oddsUp_2 : decode cX7_oddsUp 2 = .ok (.iconst 0, 1) := by decide +kernel
theorem dX7_oddsUp_3 : decode cX7_oddsUp 3 = .ok (.istore_n 3, 1) := by decide +kernel
theorem dX7_oddsUp_4 : decode cX7_oddsUp 4 = .ok (.iload_n 3, 1) := by decide +kernel
theorem dX7_oddsUp_5 : decode cX7_oddsUp 5 = .ok (.iconst 3, 1) := by decide +kernel
theorem dX7_oddsUp_6 : decode cX7_oddsUp 6 = .ok (.aload_n 0, 1) := by decide +kernel
theorem dX7_oddsUp_7 : decode cX7_oddsUp 7 = .ok (.getfield 109, 3) := by decide +kernel
theorem dX7_oddsUp_10 : decode cX7_oddsUp 10 = .ok (.imul, 1) := by decide +kernel
theorem dX7_oddsUp_11 : decode cX7_oddsUp 11 = .ok (.if_icmp .ge 45, 3) := by decide +kernel
theorem dX7_oddsUp_14 : decode cX7_oddsUp 14 = .ok (.aload_n 0, 1) := by decide +kernel
theorem dX7_oddsUp_15 : decode cX7_oddsUp 15 = .ok (.getfield 19, 3) := by decide +kernel
theorem dX7_oddsUp_18 : decode cX7_oddsUp 18 = .ok (.aload_n 0, 1) := by decide +kernel
theorem dX7_oddsUp_19 : decode cX7_oddsUp 19 = .ok (.getfield 34, 3) := by decide +kernel
theorem dX7_oddsUp_22 : decode cX7_oddsUp 22 = .ok (.invokestatic 205, 3) := by decide +kernel
theorem dX7_oddsUp_25 : decode cX7_oddsUp 25 = .ok (.aload_n 0, 1) := by decide +kernel
theorem dX7_oddsUp_26 : decode cX7_oddsUp 26 = .ok (.aload_n 0, 1) := by decide +kernel
theorem dX7_oddsUp_27 : decode cX7_oddsUp 27 = .ok (.getfield 34, 3) := by decide +kernel
theorem dX7_oddsUp_30 : decode cX7_oddsUp 30 = .ok (.iload_n 3, 1) := by decide +kernel
theorem dX7_oddsUp_31 : decode cX7_oddsUp 31 = .ok (.invokevirtual 209, 3) := by decide +kernel
theorem dX7_oddsUp_34 : decode cX7_oddsUp 34 = .ok (.iload_n 2, 1) := by decide +kernel
theorem dX7_oddsUp_35 : decode cX7_oddsUp 35 = .ok (.aload_n 0, 1) := by decide +kernel
theorem dX7_oddsUp_36 : decode cX7_oddsUp 36 = .ok (.aload_n 0, 1) := by decide +kernel
theorem dX7_oddsUp_37 : decode cX7_oddsUp 37 = .ok (.getfield 34, 3) := by decide +kernel
theorem dX7_oddsUp_40 : decode cX7_oddsUp 40 = .ok (.iconst 1, 1) := by decide +kernel
theorem dX7_oddsUp_41 : decode cX7_oddsUp 41 = .ok (.invokevirtual 162, 3) := by decide +kernel
theorem dX7_oddsUp_44 : decode cX7_oddsUp 44 = .ok (.iload_n 1, 1) := by decide +kernel
theorem dX7_oddsUp_45 : decode cX7_oddsUp 45 = .ok (.ishr, 1) := by decide +kernel
theorem dX7_oddsUp_46 : decode cX7_oddsUp 46 = .ok (.iconst 1, 1) := by decide +kernel
theorem dX7_oddsUp_47 : decode cX7_oddsUp 47 = .ok (.iand, 1) := by decide +kernel
theorem dX7_oddsUp_48 : decode cX7_oddsUp 48 = .ok (.iadd, 1) := by decide +kernel
theorem dX7_oddsUp_49 : decode cX7_oddsUp 49 = .ok (.istore_n 2, 1) := by decide +kernel
theorem dX7_oddsUp_50 : decode cX7_oddsUp 50 = .ok (.iinc 3 1, 3) := by decide +kernel
theorem dX7_oddsUp_53 : decode cX7_oddsUp 53 = .ok (.goto (-49), 3) := by decide +kernel
theorem dX7_oddsUp_56 : decode cX7_oddsUp 56 = .ok (.iload_n 2, 1) := by decide +kernel
theorem dX7_oddsUp_57 : decode cX7_oddsUp 57 = .ok (.ireturn, 1) := by decide +kernel
theorem dX7_oddsOf_0 : decode cX7_oddsOf 0 = .ok (.aload_n 0, 1) := by decide +kernel
theorem dX7_oddsOf_1 : decode cX7_oddsOf 1 = .ok (.iload_n 1, 1) := by decide +kernel
theorem dX7_oddsOf_2 : decode cX7_oddsOf 2 = .ok (.invokevirtual 213, 3) := by decide +kernel
theorem dX7_oddsOf_5 : decode cX7_oddsOf 5 = .ok (.istore_n 3, 1) := by decide +kernel
theorem dX7_oddsOf_6 : decode cX7_oddsOf 6 = .ok (.iconst 3, 1) := by decide +kernel
theorem dX7_oddsOf_7 : decode cX7_oddsOf 7 = .ok (.aload_n 0, 1) := by decide +kernel
theorem dX7_oddsOf_8 : decode cX7_oddsOf 8 = .ok (.getfield 109, 3) := by decide +kernel
theorem dX7_oddsOf_11 : decode cX7_oddsOf 11 = .ok (.imul, 1) := by decide +kernel
theorem dX7_oddsOf_12 : decode cX7_oddsOf 12 = .ok (.iload_n 3, 1) := by decide +kernel
theorem dX7_oddsOf_13 : decode cX7_oddsOf 13 = .ok (.invokestatic 216, 3) := by decide +kernel
theorem dX7_oddsOf_16 : decode cX7_oddsOf 16 = .ok (.istore 4, 2) := by decide +kernel
theorem dX7_oddsOf_18 : decode cX7_oddsOf 18 = .ok (.iload_n 2, 1) := by decide +kernel
theorem dX7_oddsOf_19 : decode cX7_oddsOf 19 = .ok (.iconst 5, 1) := by decide +kernel
theorem dX7_oddsOf_20 : decode cX7_oddsOf 20 = .ok (.if_icmp .ne 10, 3) := by decide +kernel
theorem dX7_oddsOf_23 : decode cX7_oddsOf 23 = .ok (.iload_n 3, 1) := by decide +kernel
theorem dX7_oddsOf_24 : decode cX7_oddsOf 24 = .ok (.iload 4, 2) := by decide +kernel
theorem dX7_oddsOf_26 : decode cX7_oddsOf 26 = .ok (.idiv, 1) := by decide +kernel
theorem dX7_oddsOf_27 : decode cX7_oddsOf 27 = .ok (.goto 12, 3) := by decide +kernel
theorem dX7_oddsOf_30 : decode cX7_oddsOf 30 = .ok (.iconst 3, 1) := by decide +kernel
theorem dX7_oddsOf_31 : decode cX7_oddsOf 31 = .ok (.aload_n 0, 1) := by decide +kernel
theorem dX7_oddsOf_32 : decode cX7_oddsOf 32 = .ok (.getfield 109, 3) := by decide +kernel
theorem dX7_oddsOf_35 : decode cX7_oddsOf 35 = .ok (.imul, 1) := by decide +kernel
theorem dX7_oddsOf_36 : decode cX7_oddsOf 36 = .ok (.iload 4, 2) := by decide +kernel
theorem dX7_oddsOf_38 : decode cX7_oddsOf 38 = .ok (.idiv, 1) := by decide +kernel
theorem dX7_oddsOf_39 : decode cX7_oddsOf 39 = .ok (.ireturn, 1) := by decide +kernel
theorem dX7_tellPail_0 : decode cX7_tellPail 0 = .ok (.iload_n 2, 1) := by decide +kernel
theorem dX7_tellPail_1 : decode cX7_tellPail 1 = .ok (.tableswitch 85 0 6 #[43, 50, 56, 63, 72, 78, 78], 43) := by decide +kernel
theorem dX7_tellPail_44 : decode cX7_tellPail 44 = .ok (.aload_n 0, 1) := by decide +kernel
theorem dX7_tellPail_45 : decode cX7_tellPail 45 = .ok (.getfield 22, 3) := by decide +kernel
theorem dX7_tellPail_48 : decode cX7_tellPail 48 = .ok (.iload_n 1, 1) := by decide +kernel
theorem dX7_tellPail_49 : decode cX7_tellPail 49 = .ok (.iaload, 1) := by decide +kernel
theorem dX7_tellPail_50 : decode cX7_tellPail 50 = .ok (.ireturn, 1) := by decide +kernel
theorem dX7_tellPail_51 : decode cX7_tellPail 51 = .ok (.aload_n 0, 1) := by decide +kernel
theorem dX7_tellPail_52 : decode cX7_tellPail 52 = .ok (.iload_n 1, 1) := by decide +kernel
theorem dX7_tellPail_53 : decode cX7_tellPail 53 = .ok (.invokevirtual 196, 3) := by decide +kernel
theorem dX7_tellPail_56 : decode cX7_tellPail 56 = .ok (.ireturn, 1) := by decide +kernel
theorem dX7_tellPail_57 : decode cX7_tellPail 57 = .ok (.aload_n 0, 1) := by decide +kernel
theorem dX7_tellPail_58 : decode cX7_tellPail 58 = .ok (.getfield 25, 3) := by decide +kernel
theorem dX7_tellPail_61 : decode cX7_tellPail 61 = .ok (.iload_n 1, 1) := by decide +kernel
theorem dX7_tellPail_62 : decode cX7_tellPail 62 = .ok (.iaload, 1) := by decide +kernel
theorem dX7_tellPail_63 : decode cX7_tellPail 63 = .ok (.ireturn, 1) := by decide +kernel
theorem dX7_tellPail_64 : decode cX7_tellPail 64 = .ok (.aload_n 0, 1) := by decide +kernel
theorem dX7_tellPail_65 : decode cX7_tellPail 65 = .ok (.invokevirtual 166, 3) := by decide +kernel
theorem dX7_tellPail_68 : decode cX7_tellPail 68 = .ok (.iload_n 1, 1) := by decide +kernel
theorem dX7_tellPail_69 : decode cX7_tellPail 69 = .ok (.ishr, 1) := by decide +kernel
theorem dX7_tellPail_70 : decode cX7_tellPail 70 = .ok (.iconst 1, 1) := by decide +kernel
theorem dX7_tellPail_71 : decode cX7_tellPail 71 = .ok (.iand, 1) := by decide +kernel
theorem dX7_tellPail_72 : decode cX7_tellPail 72 = .ok (.ireturn, 1) := by decide +kernel
theorem dX7_tellPail_73 : decode cX7_tellPail 73 = .ok (.aload_n 0, 1) := by decide +kernel
theorem dX7_tellPail_74 : decode cX7_tellPail 74 = .ok (.iload_n 1, 1) := by decide +kernel
theorem dX7_tellPail_75 : decode cX7_tellPail 75 = .ok (.invokevirtual 219, 3) := by decide +kernel
theorem dX7_tellPail_78 : decode cX7_tellPail 78 = .ok (.ireturn, 1) := by decide +kernel
theorem dX7_tellPail_79 : decode cX7_tellPail 79 = .ok (.aload_n 0, 1) := by decide +kernel
theorem dX7_tellPail_80 : decode cX7_tellPail 80 = .ok (.iload_n 1, 1) := by decide +kernel
theorem dX7_tellPail_81 : decode cX7_tellPail 81 = .ok (.iload_n 2, 1) := by decide +kernel
theorem dX7_tellPail_82 : decode cX7_tellPail 82 = .ok (.invokevirtual 222, 3) := by decide +kernel
theorem dX7_tellPail_85 : decode cX7_tellPail 85 = .ok (.ireturn, 1) := by decide +kernel
theorem dX7_tellPail_86 : decode cX7_tellPail 86 = .ok (.bipush (-102), 2) := by decide +kernel
theorem dX7_tellPail_88 : decode cX7_tellPail 88 = .ok (.ireturn, 1) := by decide +kernel
theorem dX7_pail_0 : decode cX7_pail 0 = .ok (.aload_n 0, 1) := by decide +kernel
theorem dX7_pail_1 : decode cX7_pail 1 = .ok (.iload_n 1, 1) := by decide +kernel
theorem dX7_pail_2 : decode cX7_pail 2 = .ok (.invokevirtual 225, 3) := by decide +kernel
theorem dX7_pail_5 : decode cX7_pail 5 = .ok (.ifCond .eq 12, 3) := by decide +kernel
theorem dX7_pail_8 : decode cX7_pail 8 = .ok (.aload_n 0, 1) := by decide +kernel
theorem dX7_pail_9 : decode cX7_pail 9 = .ok (.iload_n 1, 1) := by decide +kernel
theorem dX7_pail_10 : decode cX7_pail 10 = .ok (.iload_n 2, 1) := by decide +kernel
theorem dX7_pail_11 : decode cX7_pail 11 = .ok (.invokevirtual 228, 3) := by decide +kernel
theorem dX7_pail_14 : decode cX7_pail 14 = .ok (.goto 5, 3) := by decide +kernel
theorem dX7_pail_17 : decode cX7_pail 17 = .ok (.bipush (-101), 2) := by decide +kernel
theorem dX7_pail_19 : decode cX7_pail 19 = .ok (.ireturn, 1) := by decide +kernel
theorem dX7_slight_0 : decode cX7_slight 0 = .ok (.aload_n 0, 1) := by decide +kernel
theorem dX7_slight_1 : decode cX7_slight 1 = .ok (.iload_n 1, 1) := by decide +kernel
theorem dX7_slight_2 : decode cX7_slight 2 = .ok (.invokevirtual 188, 3) := by decide +kernel
theorem dX7_slight_5 : decode cX7_slight 5 = .ok (.ifCond .ne 6, 3) := by decide +kernel
theorem dX7_slight_8 : decode cX7_slight 8 = .ok (.bipush (-101), 2) := by decide +kernel
theorem dX7_slight_10 : decode cX7_slight 10 = .ok (.ireturn, 1) := by decide +kernel
theorem dX7_slight_11 : decode cX7_slight 11 = .ok (.iload_n 2, 1) := by decide +kernel
theorem dX7_slight_12 : decode cX7_slight 12 = .ok (.i2l, 1) := by decide +kernel
theorem dX7_slight_13 : decode cX7_slight 13 = .ok (.lconst 0, 1) := by decide +kernel
theorem dX7_slight_14 : decode cX7_slight 14 = .ok (.ldc2_w 231, 3) := by decide +kernel
theorem dX7_slight_17 : decode cX7_slight 17 = .ok (.invokestatic 76, 3) := by decide +kernel
theorem dX7_slight_20 : decode cX7_slight 20 = .ok (.ifCond .ne 6, 3) := by decide +kernel
theorem dX7_slight_23 : decode cX7_slight 23 = .ok (.bipush (-102), 2) := by decide +kernel
theorem dX7_slight_25 : decode cX7_slight 25 = .ok (.ireturn, 1) := by decide +kernel
theorem dX7_slight_26 : decode cX7_slight 26 = .ok (.aload_n 0, 1) := by decide +kernel
theorem dX7_slight_27 : decode cX7_slight 27 = .ok (.aload_n 0, 1) := by decide +kernel
theorem dX7_slight_28 : decode cX7_slight 28 = .ok (.getfield 19, 3) := by decide +kernel
theorem dX7_slight_31 : decode cX7_slight 31 = .ok (.iconst 3, 1) := by decide +kernel
theorem dX7_slight_32 : decode cX7_slight 32 = .ok (.iload_n 1, 1) := by decide +kernel
theorem dX7_slight_33 : decode cX7_slight 33 = .ok (.imul, 1) := by decide +kernel
theorem dX7_slight_34 : decode cX7_slight 34 = .ok (.iload_n 2, 1) := by decide +kernel
theorem dX7_slight_35 : decode cX7_slight 35 = .ok (.iadd, 1) := by decide +kernel
theorem dX7_slight_36 : decode cX7_slight 36 = .ok (.invokevirtual 209, 3) := by decide +kernel
theorem dX7_slight_39 : decode cX7_slight 39 = .ok (.aload_n 0, 1) := by decide +kernel
theorem dX7_slight_40 : decode cX7_slight 40 = .ok (.getfield 13, 3) := by decide +kernel
theorem dX7_slight_43 : decode cX7_slight 43 = .ok (.iconst 3, 1) := by decide +kernel
theorem dX7_slight_44 : decode cX7_slight 44 = .ok (.iload_n 1, 1) := by decide +kernel
theorem dX7_slight_45 : decode cX7_slight 45 = .ok (.imul, 1) := by decide +kernel
theorem dX7_slight_46 : decode cX7_slight 46 = .ok (.iconst 2, 1) := by decide +kernel
theorem dX7_slight_47 : decode cX7_slight 47 = .ok (.iadd, 1) := by decide +kernel
theorem dX7_slight_48 : decode cX7_slight 48 = .ok (.dup2, 1) := by decide +kernel
theorem dX7_slight_49 : decode cX7_slight 49 = .ok (.iaload, 1) := by decide +kernel
theorem dX7_slight_50 : decode cX7_slight 50 = .ok (.iconst 1, 1) := by decide +kernel
theorem dX7_slight_51 : decode cX7_slight 51 = .ok (.iadd, 1) := by decide +kernel
theorem dX7_slight_52 : decode cX7_slight 52 = .ok (.iastore, 1) := by decide +kernel
theorem dX7_slight_53 : decode cX7_slight 53 = .ok (.aload_n 0, 1) := by decide +kernel
theorem dX7_slight_54 : decode cX7_slight 54 = .ok (.dup, 1) := by decide +kernel
theorem dX7_slight_55 : decode cX7_slight 55 = .ok (.getfield 118, 3) := by decide +kernel
theorem dX7_slight_58 : decode cX7_slight 58 = .ok (.iconst 1, 1) := by decide +kernel
theorem dX7_slight_59 : decode cX7_slight 59 = .ok (.iadd, 1) := by decide +kernel
theorem dX7_slight_60 : decode cX7_slight 60 = .ok (.putfield 118, 3) := by decide +kernel
theorem dX7_slight_63 : decode cX7_slight 63 = .ok (.aload_n 0, 1) := by decide +kernel
theorem dX7_slight_64 : decode cX7_slight 64 = .ok (.getfield 19, 3) := by decide +kernel
theorem dX7_slight_67 : decode cX7_slight 67 = .ok (.iload_n 1, 1) := by decide +kernel
theorem dX7_slight_68 : decode cX7_slight 68 = .ok (.iaload, 1) := by decide +kernel
theorem dX7_slight_69 : decode cX7_slight 69 = .ok (.ireturn, 1) := by decide +kernel
theorem dX7_soothe_0 : decode cX7_soothe 0 = .ok (.aload_n 0, 1) := by decide +kernel
theorem dX7_soothe_1 : decode cX7_soothe 1 = .ok (.iload_n 1, 1) := by decide +kernel
theorem dX7_soothe_2 : decode cX7_soothe 2 = .ok (.invokevirtual 188, 3) := by decide +kernel
theorem dX7_soothe_5 : decode cX7_soothe 5 = .ok (.ifCond .ne 6, 3) := by decide +kernel
theorem dX7_soothe_8 : decode cX7_soothe 8 = .ok (.bipush (-101), 2) := by decide +kernel
theorem dX7_soothe_10 : decode cX7_soothe 10 = .ok (.ireturn, 1) := by decide +kernel
theorem dX7_soothe_11 : decode cX7_soothe 11 = .ok (.aload_n 0, 1) := by decide +kernel
theorem dX7_soothe_12 : decode cX7_soothe 12 = .ok (.getfield 19, 3) := by decide +kernel
theorem dX7_soothe_15 : decode cX7_soothe 15 = .ok (.iload_n 1, 1) := by decide +kernel
theorem dX7_soothe_16 : decode cX7_soothe 16 = .ok (.iaload, 1) := by decide +kernel
theorem dX7_soothe_17 : decode cX7_soothe 17 = .ok (.istore_n 2, 1) := by decide +kernel
theorem dX7_soothe_18 : decode cX7_soothe 18 = .ok (.aload_n 0, 1) := by decide +kernel
theorem dX7_soothe_19 : decode cX7_soothe 19 = .ok (.getfield 19, 3) := by decide +kernel
theorem dX7_soothe_22 : decode cX7_soothe 22 = .ok (.iload_n 1, 1) := by decide +kernel
theorem dX7_soothe_23 : decode cX7_soothe 23 = .ok (.iconst 0, 1) := by decide +kernel
theorem dX7_soothe_24 : decode cX7_soothe 24 = .ok (.iastore, 1) := by decide +kernel
theorem dX7_soothe_25 : decode cX7_soothe 25 = .ok (.iload_n 2, 1) := by decide +kernel
theorem dX7_soothe_26 : decode cX7_soothe 26 = .ok (.ireturn, 1) := by decide +kernel
theorem dX7_sit_0 : decode cX7_sit 0 = .ok (.aload_n 0, 1) := by decide +kernel
theorem dX7_sit_1 : decode cX7_sit 1 = .ok (.iload_n 1, 1) := by decide +kernel
theorem dX7_sit_2 : decode cX7_sit 2 = .ok (.invokevirtual 188, 3) := by decide +kernel
theorem dX7_sit_5 : decode cX7_sit 5 = .ok (.ifCond .eq 11, 3) := by decide +kernel
theorem dX7_sit_8 : decode cX7_sit 8 = .ok (.aload_n 0, 1) := by decide +kernel
theorem dX7_sit_9 : decode cX7_sit 9 = .ok (.iload_n 2, 1) := by decide +kernel
theorem dX7_sit_10 : decode cX7_sit 10 = .ok (.invokevirtual 233, 3) := by decide +kernel
theorem dX7_sit_13 : decode cX7_sit 13 = .ok (.ifCond .ne 6, 3) := by decide +kernel
theorem dX7_sit_16 : decode cX7_sit 16 = .ok (.bipush (-101), 2) := by decide +kernel
theorem dX7_sit_18 : decode cX7_sit 18 = .ok (.ireturn, 1) := by decide +kernel
theorem dX7_sit_19 : decode cX7_sit 19 = .ok (.aload_n 0, 1) := by decide +kernel
theorem dX7_sit_20 : decode cX7_sit 20 = .ok (.getfield 16, 3) := by decide +kernel
theorem dX7_sit_23 : decode cX7_sit 23 = .ok (.iload_n 1, 1) := by decide +kernel
theorem dX7_sit_24 : decode cX7_sit 24 = .ok (.iaload, 1) := by decide +kernel
theorem dX7_sit_25 : decode cX7_sit 25 = .ok (.istore_n 3, 1) := by decide +kernel
theorem dX7_sit_26 : decode cX7_sit 26 = .ok (.aload_n 0, 1) := by decide +kernel
theorem dX7_sit_27 : decode cX7_sit 27 = .ok (.getfield 16, 3) := by decide +kernel
theorem dX7_sit_30 : decode cX7_sit 30 = .ok (.iload_n 1, 1) := by decide +kernel
theorem dX7_sit_31 : decode cX7_sit 31 = .ok (.iload_n 2, 1) := by decide +kernel
theorem dX7_sit_32 : decode cX7_sit 32 = .ok (.iastore, 1) := by decide +kernel
theorem dX7_sit_33 : decode cX7_sit 33 = .ok (.iload_n 3, 1) := by decide +kernel
theorem dX7_sit_34 : decode cX7_sit 34 = .ok (.ireturn, 1) := by decide +kernel
theorem dX7_night_0 : decode cX7_night 0 = .ok (.aload_n 0, 1) := by decide +kernel
theorem dX7_night_1 : decode cX7_night 1 = .ok (.invokevirtual 133, 3) := by decide +kernel
theorem dX7_night_4 : decode cX7_night 4 = .ok (.ifCond .eq 6, 3) := by decide +kernel
theorem dX7_night_7 : decode cX7_night 7 = .ok (.bipush (-103), 2) := by decide +kernel
theorem dX7_night_9 : decode cX7_night 9 = .ok (.ireturn, 1) := by decide +kernel
theorem dX7_night_10 : decode cX7_night 10 = .ok (.aload_n 0, 1) := by decide +kernel
theorem dX7_night_11 : decode cX7_night 11 = .ok (.getfield 115, 3) := by decide +kernel
theorem dX7_night_14 : decode cX7_night 14 = .ok (.bipush 99, 2) := by decide +kernel
theorem dX7_night_16 : decode cX7_night 16 = .ok (.if_icmp .ne 6, 3) := by decide +kernel
theorem dX7_night_19 : decode cX7_night 19 = .ok (.bipush (-104), 2) := by decide +kernel
theorem dX7_night_21 : decode cX7_night 21 = .ok (.ireturn, 1) := by decide +kernel
theorem dX7_night_22 : decode cX7_night 22 = .ok (.aload_n 0, 1) := by decide +kernel
theorem dX7_night_23 : decode cX7_night 23 = .ok (.aload_n 0, 1) := by decide +kernel
theorem dX7_night_24 : decode cX7_night 24 = .ok (.getfield 19, 3) := by decide +kernel
theorem dX7_night_27 : decode cX7_night 27 = .ok (.invokevirtual 236, 3) := by decide +kernel
theorem dX7_night_30 : decode cX7_night 30 = .ok (.aload_n 0, 1) := by decide +kernel
theorem dX7_night_31 : decode cX7_night 31 = .ok (.dup, 1) := by decide +kernel
theorem dX7_night_32 : decode cX7_night 32 = .ok (.getfield 115, 3) := by decide +kernel
theorem dX7_night_35 : decode cX7_night 35 = .ok (.iconst 1, 1) := by decide +kernel
theorem dX7_night_36 : decode cX7_night 36 = .ok (.iadd, 1) := by decide +kernel
theorem dX7_night_37 : decode cX7_night 37 = .ok (.putfield 115, 3) := by decide +kernel
theorem dX7_night_40 : decode cX7_night 40 = .ok (.aload_n 0, 1) := by decide +kernel
theorem dX7_night_41 : decode cX7_night 41 = .ok (.getfield 115, 3) := by decide +kernel
theorem dX7_night_44 : decode cX7_night 44 = .ok (.ireturn, 1) := by decide +kernel
theorem dX7_curdle_0 : decode cX7_curdle 0 = .ok (.aload_n 0, 1) := by decide +kernel
theorem dX7_curdle_1 : decode cX7_curdle 1 = .ok (.invokevirtual 133, 3) := by decide +kernel
theorem dX7_curdle_4 : decode cX7_curdle 4 = .ok (.ifCond .eq 6, 3) := by decide +kernel
theorem dX7_curdle_7 : decode cX7_curdle 7 = .ok (.bipush (-103), 2) := by decide +kernel
theorem dX7_curdle_9 : decode cX7_curdle 9 = .ok (.ireturn, 1) := by decide +kernel
theorem dX7_curdle_10 : decode cX7_curdle 10 = .ok (.aload_n 0, 1) := by decide +kernel
theorem dX7_curdle_11 : decode cX7_curdle 11 = .ok (.invokevirtual 166, 3) := by decide +kernel
theorem dX7_curdle_14 : decode cX7_curdle 14 = .ok (.istore_n 1, 1) := by decide +kernel
theorem dX7_curdle_15 : decode cX7_curdle 15 = .ok (.iconst 0, 1) := by decide +kernel
theorem dX7_curdle_16 : decode cX7_curdle 16 = .ok (.istore_n 2, 1) := by decide +kernel
theorem dX7_curdle_17 : decode cX7_curdle 17 = .ok (.iconst 0, 1) := by decide +kernel
theorem dX7_curdle_18 : decode cX7_curdle 18 = .ok (.istore_n 3, 1) := by decide +kernel
theorem dX7_curdle_19 : decode cX7_curdle 19 = .ok (.iload_n 3, 1) := by decide +kernel
theorem dX7_curdle_20 : decode cX7_curdle 20 = .ok (.aload_n 0, 1) := by decide +kernel
theorem dX7_curdle_21 : decode cX7_curdle 21 = .ok (.getfield 112, 3) := by decide +kernel
theorem dX7_curdle_24 : decode cX7_curdle 24 = .ok (.if_icmp .ge 37, 3) := by decide +kernel
theorem dX7_curdle_27 : decode cX7_curdle 27 = .ok (.iload_n 1, 1) := by decide +kernel
theorem dX7_curdle_28 : decode cX7_curdle 28 = .ok (.iload_n 3, 1) := by decide +kernel
theorem dX7_curdle_29 : decode cX7_curdle 29 = .ok (.ishr, 1) := by decide +kernel
theorem dX7_curdle_30 : decode cX7_curdle 30 = .ok (.iconst 1, 1) := by decide +kernel
theorem dX7_curdle_31 : decode cX7_curdle 31 = .ok (.iand, 1) := by decide +kernel
theorem dX7_curdle_32 : decode cX7_curdle 32 = .ok (.iconst 1, 1) := by decide +kernel
theorem dX7_curdle_33 : decode cX7_curdle 33 = .ok (.if_icmp .ne 22, 3) := by decide +kernel
theorem dX7_curdle_36 : decode cX7_curdle 36 = .ok (.aload_n 0, 1) := by decide +kernel
theorem dX7_curdle_37 : decode cX7_curdle 37 = .ok (.getfield 25, 3) := by decide +kernel
theorem dX7_curdle_40 : decode cX7_curdle 40 = .ok (.iload_n 3, 1) := by decide +kernel
theorem dX7_curdle_41 : decode cX7_curdle 41 = .ok (.iaload, 1) := by decide +kernel
theorem dX7_curdle_42 : decode cX7_curdle 42 = .ok (.ifCond .ne 13, 3) := by decide +kernel
theorem dX7_curdle_45 : decode cX7_curdle 45 = .ok (.aload_n 0, 1) := by decide +kernel
theorem dX7_curdle_46 : decode cX7_curdle 46 = .ok (.getfield 25, 3) := by decide +kernel
theorem dX7_curdle_49 : decode cX7_curdle 49 = .ok (.iload_n 3, 1) := by decide +kernel
theorem dX7_curdle_50 : decode cX7_curdle 50 = .ok (.iconst 1, 1) := by decide +kernel
theorem dX7_curdle_51 : decode cX7_curdle 51 = .ok (.iastore, 1) := by decide +kernel
theorem dX7_curdle_52 : decode cX7_curdle 52 = .ok (.iinc 2 1, 3) := by decide +kernel
theorem dX7_curdle_55 : decode cX7_curdle 55 = .ok (.iinc 3 1, 3) := by decide +kernel
theorem dX7_curdle_58 : decode cX7_curdle 58 = .ok (.goto (-39), 3) := by decide +kernel
theorem dX7_curdle_61 : decode cX7_curdle 61 = .ok (.aload_n 0, 1) := by decide +kernel
theorem dX7_curdle_62 : decode cX7_curdle 62 = .ok (.iconst 0, 1) := by decide +kernel
theorem dX7_curdle_63 : decode cX7_curdle 63 = .ok (.putfield 124, 3) := by decide +kernel
theorem dX7_curdle_66 : decode cX7_curdle 66 = .ok (.aload_n 0, 1) := by decide +kernel
theorem dX7_curdle_67 : decode cX7_curdle 67 = .ok (.dup, 1) := by decide +kernel
theorem dX7_curdle_68 : decode cX7_curdle 68 = .ok (.getfield 121, 3) := by decide +kernel
theorem dX7_curdle_71 : decode cX7_curdle 71 = .ok (.iload_n 2, 1) := by decide +kernel
theorem dX7_curdle_72 : decode cX7_curdle 72 = .ok (.iadd, 1) := by decide +kernel
theorem dX7_curdle_73 : decode cX7_curdle 73 = .ok (.putfield 121, 3) := by decide +kernel
theorem dX7_curdle_76 : decode cX7_curdle 76 = .ok (.iload_n 2, 1) := by decide +kernel
theorem dX7_curdle_77 : decode cX7_curdle 77 = .ok (.ireturn, 1) := by decide +kernel
theorem dX7_fresh_0 : decode cX7_fresh 0 = .ok (.aload_n 0, 1) := by decide +kernel
theorem dX7_fresh_1 : decode cX7_fresh 1 = .ok (.iload_n 1, 1) := by decide +kernel
theorem dX7_fresh_2 : decode cX7_fresh 2 = .ok (.invokevirtual 225, 3) := by decide +kernel
theorem dX7_fresh_5 : decode cX7_fresh 5 = .ok (.ifCond .ne 6, 3) := by decide +kernel
theorem dX7_fresh_8 : decode cX7_fresh 8 = .ok (.bipush (-101), 2) := by decide +kernel
theorem dX7_fresh_10 : decode cX7_fresh 10 = .ok (.ireturn, 1) := by decide +kernel
theorem dX7_fresh_11 : decode cX7_fresh 11 = .ok (.aload_n 0, 1) := by decide +kernel
theorem dX7_fresh_12 : decode cX7_fresh 12 = .ok (.getfield 25, 3) := by decide +kernel
theorem dX7_fresh_15 : decode cX7_fresh 15 = .ok (.iload_n 1, 1) := by decide +kernel
theorem dX7_fresh_16 : decode cX7_fresh 16 = .ok (.iaload, 1) := by decide +kernel
theorem dX7_fresh_17 : decode cX7_fresh 17 = .ok (.istore_n 2, 1) := by decide +kernel
theorem dX7_fresh_18 : decode cX7_fresh 18 = .ok (.aload_n 0, 1) := by decide +kernel
theorem dX7_fresh_19 : decode cX7_fresh 19 = .ok (.getfield 25, 3) := by decide +kernel
theorem dX7_fresh_22 : decode cX7_fresh 22 = .ok (.iload_n 1, 1) := by decide +kernel
theorem dX7_fresh_23 : decode cX7_fresh 23 = .ok (.iconst 0, 1) := by decide +kernel
theorem dX7_fresh_24 : decode cX7_fresh 24 = .ok (.iastore, 1) := by decide +kernel
theorem dX7_fresh_25 : decode cX7_fresh 25 = .ok (.iload_n 2, 1) := by decide +kernel
theorem dX7_fresh_26 : decode cX7_fresh 26 = .ok (.ireturn, 1) := by decide +kernel
theorem dX7_force_0 : decode cX7_force 0 = .ok (.aload_n 0, 1) := by decide +kernel
theorem dX7_force_1 : decode cX7_force 1 = .ok (.iload_n 1, 1) := by decide +kernel
theorem dX7_force_2 : decode cX7_force 2 = .ok (.invokevirtual 233, 3) := by decide +kernel
theorem dX7_force_5 : decode cX7_force 5 = .ok (.ifCond .eq 11, 3) := by decide +kernel
theorem dX7_force_8 : decode cX7_force 8 = .ok (.aload_n 0, 1) := by decide +kernel
theorem dX7_force_9 : decode cX7_force 9 = .ok (.iload_n 1, 1) := by decide +kernel
theorem dX7_force_10 : decode cX7_force 10 = .ok (.invokevirtual 196, 3) := by decide +kernel
theorem dX7_force_13 : decode cX7_force 13 = .ok (.goto 5, 3) := by decide +kernel
theorem dX7_force_16 : decode cX7_force 16 = .ok (.bipush (-101), 2) := by decide +kernel
theorem dX7_force_18 : decode cX7_force 18 = .ok (.ireturn, 1) := by decide +kernel
theorem dX7_keep_0 : decode cX7_keep 0 = .ok (.aload_n 0, 1) := by decide +kernel
theorem dX7_keep_1 : decode cX7_keep 1 = .ok (.iload_n 1, 1) := by decide +kernel
