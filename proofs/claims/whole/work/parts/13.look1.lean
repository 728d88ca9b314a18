theorem i101_16 : lk (mi_ins m101) 16 = some (.iload_n 1, 1, []) := by decide +kernel
theorem i101_17 : lk (mi_ins m101) 17 = some (.aload_n 0, 1, []) := by decide +kernel
theorem i101_18 : lk (mi_ins m101) 18 = some (.getfield 23, 3, []) := by decide +kernel
theorem i101_21 : lk (mi_ins m101) 21 = some (.getfield 209, 3, []) := by decide +kernel
theorem i101_24 : lk (mi_ins m101) 24 = some (.if_icmp .ge 53, 3, []) := by decide +kernel
theorem i101_27 : lk (mi_ins m101) 27 = some (.aload_n 0, 1, []) := by decide +kernel
theorem i101_28 : lk (mi_ins m101) 28 = some (.aload_n 0, 1, []) := by decide +kernel
theorem i101_29 : lk (mi_ins m101) 29 = some (.getfield 23, 3, []) := by decide +kernel
theorem i101_32 : lk (mi_ins m101) 32 = some (.getfield 212, 3, []) := by decide +kernel
theorem i101_35 : lk (mi_ins m101) 35 = some (.iload_n 1, 1, []) := by decide +kernel
theorem i101_36 : lk (mi_ins m101) 36 = some (.iaload, 1, []) := by decide +kernel
theorem i101_37 : lk (mi_ins m101) 37 = some (.invokevirtual 199, 3, []) := by decide +kernel
theorem i101_40 : lk (mi_ins m101) 40 = some (.aload_n 0, 1, []) := by decide +kernel
theorem i101_41 : lk (mi_ins m101) 41 = some (.getfield 40, 3, []) := by decide +kernel
theorem i101_44 : lk (mi_ins m101) 44 = some (.getfield 145, 3, []) := by decide +kernel
theorem i101_47 : lk (mi_ins m101) 47 = some (.aload_n 0, 1, []) := by decide +kernel
theorem i101_48 : lk (mi_ins m101) 48 = some (.getfield 23, 3, []) := by decide +kernel
theorem i101_51 : lk (mi_ins m101) 51 = some (.getfield 215, 3, []) := by decide +kernel
theorem i101_54 : lk (mi_ins m101) 54 = some (.iload_n 1, 1, []) := by decide +kernel
theorem i101_55 : lk (mi_ins m101) 55 = some (.iaload, 1, []) := by decide +kernel
theorem i101_56 : lk (mi_ins m101) 56 = some (.iaload, 1, []) := by decide +kernel
theorem i101_57 : lk (mi_ins m101) 57 = some (.aload_n 0, 1, []) := by decide +kernel
theorem i101_58 : lk (mi_ins m101) 58 = some (.getfield 23, 3, []) := by decide +kernel
theorem i101_61 : lk (mi_ins m101) 61 = some (.getfield 218, 3, []) := by decide +kernel
theorem i101_64 : lk (mi_ins m101) 64 = some (.iload_n 1, 1, []) := by decide +kernel
theorem i101_65 : lk (mi_ins m101) 65 = some (.iaload, 1, []) := by decide +kernel
theorem i101_66 : lk (mi_ins m101) 66 = some (.if_icmp .ge 5, 3, []) := by decide +kernel
theorem i101_69 : lk (mi_ins m101) 69 = some (.iload_n 1, 1, []) := by decide +kernel
theorem i101_70 : lk (mi_ins m101) 70 = some (.ireturn, 1, []) := by decide +kernel
theorem i101_71 : lk (mi_ins m101) 71 = some (.iinc 1 1, 3, []) := by decide +kernel
theorem i101_74 : lk (mi_ins m101) 74 = some (.goto (-58), 3, []) := by decide +kernel
theorem i101_77 : lk (mi_ins m101) 77 = some (.bipush (-2), 2, [0, 1]) := by decide +kernel
theorem i101_79 : lk (mi_ins m101) 79 = some (.ireturn, 1, []) := by decide +kernel
theorem i102_0 : lk (mi_ins m102) 0 = some (.aload_n 0, 1, []) := by decide +kernel
theorem i102_1 : lk (mi_ins m102) 1 = some (.aload_n 0, 1, []) := by decide +kernel
theorem i102_2 : lk (mi_ins m102) 2 = some (.iload_n 1, 1, []) := by decide +kernel
theorem i102_3 : lk (mi_ins m102) 3 = some (.invokevirtual 126, 3, []) := by decide +kernel
theorem i102_6 : lk (mi_ins m102) 6 = some (.iload_n 2, 1, []) := by decide +kernel
theorem i102_7 : lk (mi_ins m102) 7 = some (.iconst 0, 1, []) := by decide +kernel
theorem i102_8 : lk (mi_ins m102) 8 = some (.bipush 99, 2, []) := by decide +kernel
theorem i102_10 : lk (mi_ins m102) 10 = some (.invokestatic 87, 3, []) := by decide +kernel
theorem i102_13 : lk (mi_ins m102) 13 = some (.ifCond .ne 10, 3, []) := by decide +kernel
theorem i102_16 : lk (mi_ins m102) 16 = some (.iload_n 3, 1, []) := by decide +kernel
theorem i102_17 : lk (mi_ins m102) 17 = some (.invokestatic 155, 3, []) := by decide +kernel
theorem i102_20 : lk (mi_ins m102) 20 = some (.ifCond .eq 7, 3, []) := by decide +kernel
theorem i102_23 : lk (mi_ins m102) 23 = some (.iconst 1, 1, [4, 5, 6]) := by decide +kernel
theorem i102_24 : lk (mi_ins m102) 24 = some (.goto 4, 3, []) := by decide +kernel
theorem i102_27 : lk (mi_ins m102) 27 = some (.iconst 0, 1, []) := by decide +kernel
theorem i102_28 : lk (mi_ins m102) 28 = some (.invokevirtual 91, 3, [4, 5, 6]) := by decide +kernel
theorem i102_31 : lk (mi_ins m102) 31 = some (.ifCond .eq 5, 3, []) := by decide +kernel
theorem i102_34 : lk (mi_ins m102) 34 = some (.iconst (-1), 1, []) := by decide +kernel
theorem i102_35 : lk (mi_ins m102) 35 = some (.ireturn, 1, []) := by decide +kernel
theorem i102_36 : lk (mi_ins m102) 36 = some (.aload_n 0, 1, []) := by decide +kernel
theorem i102_37 : lk (mi_ins m102) 37 = some (.getfield 40, 3, []) := by decide +kernel
theorem i102_40 : lk (mi_ins m102) 40 = some (.aload_n 0, 1, []) := by decide +kernel
theorem i102_41 : lk (mi_ins m102) 41 = some (.getfield 23, 3, []) := by decide +kernel
theorem i102_44 : lk (mi_ins m102) 44 = some (.aload_n 0, 1, []) := by decide +kernel
theorem i102_45 : lk (mi_ins m102) 45 = some (.getfield 30, 3, []) := by decide +kernel
theorem i102_48 : lk (mi_ins m102) 48 = some (.invokevirtual 130, 3, []) := by decide +kernel
theorem i102_51 : lk (mi_ins m102) 51 = some (.iload_n 2, 1, []) := by decide +kernel
theorem i102_52 : lk (mi_ins m102) 52 = some (.aload_n 0, 1, []) := by decide +kernel
theorem i102_53 : lk (mi_ins m102) 53 = some (.getfield 40, 3, []) := by decide +kernel
theorem i102_56 : lk (mi_ins m102) 56 = some (.iload_n 1, 1, []) := by decide +kernel
theorem i102_57 : lk (mi_ins m102) 57 = some (.invokevirtual 221, 3, []) := by decide +kernel
theorem i102_60 : lk (mi_ins m102) 60 = some (.isub, 1, []) := by decide +kernel
theorem i102_61 : lk (mi_ins m102) 61 = some (.istore 4, 2, []) := by decide +kernel
theorem i102_63 : lk (mi_ins m102) 63 = some (.iload_n 3, 1, []) := by decide +kernel
theorem i102_64 : lk (mi_ins m102) 64 = some (.invokestatic 224, 3, []) := by decide +kernel
theorem i102_67 : lk (mi_ins m102) 67 = some (.istore 5, 2, []) := by decide +kernel
theorem i102_69 : lk (mi_ins m102) 69 = some (.iconst 0, 1, []) := by decide +kernel
theorem i102_70 : lk (mi_ins m102) 70 = some (.istore 6, 2, []) := by decide +kernel
theorem i102_72 : lk (mi_ins m102) 72 = some (.iload 6, 2, [0, 1, 2, 3]) := by decide +kernel
theorem i102_74 : lk (mi_ins m102) 74 = some (.sipush 300, 3, []) := by decide +kernel
theorem i102_77 : lk (mi_ins m102) 77 = some (.if_icmp .gt 22, 3, []) := by decide +kernel
theorem i102_80 : lk (mi_ins m102) 80 = some (.iload 6, 2, []) := by decide +kernel
theorem i102_82 : lk (mi_ins m102) 82 = some (.iload 5, 2, []) := by decide +kernel
theorem i102_84 : lk (mi_ins m102) 84 = some (.imul, 1, []) := by decide +kernel
theorem i102_85 : lk (mi_ins m102) 85 = some (.iload 4, 2, []) := by decide +kernel
theorem i102_87 : lk (mi_ins m102) 87 = some (.if_icmp .lt 6, 3, []) := by decide +kernel
theorem i102_90 : lk (mi_ins m102) 90 = some (.iload 6, 2, []) := by decide +kernel
theorem i102_92 : lk (mi_ins m102) 92 = some (.ireturn, 1, []) := by decide +kernel
theorem i102_93 : lk (mi_ins m102) 93 = some (.iinc 6 1, 3, []) := by decide +kernel
theorem i102_96 : lk (mi_ins m102) 96 = some (.goto (-24), 3, []) := by decide +kernel
theorem i102_99 : lk (mi_ins m102) 99 = some (.bipush (-2), 2, [0, 1, 2, 3, 4, 5, 6]) := by decide +kernel
theorem i102_101 : lk (mi_ins m102) 101 = some (.ireturn, 1, []) := by decide +kernel
theorem i103_0 : lk (mi_ins m103) 0 = some (.iload_n 0, 1, []) := by decide +kernel
theorem i103_1 : lk (mi_ins m103) 1 = some (.ifCond .lt 11, 3, []) := by decide +kernel
theorem i103_4 : lk (mi_ins m103) 4 = some (.iload_n 0, 1, []) := by decide +kernel
theorem i103_5 : lk (mi_ins m103) 5 = some (.getstatic 18, 3, []) := by decide +kernel
theorem i103_8 : lk (mi_ins m103) 8 = some (.arraylength, 1, []) := by decide +kernel
theorem i103_9 : lk (mi_ins m103) 9 = some (.if_icmp .lt 7, 3, []) := by decide +kernel
theorem i103_12 : lk (mi_ins m103) 12 = some (.iconst 0, 1, [0]) := by decide +kernel
theorem i103_13 : lk (mi_ins m103) 13 = some (.goto 8, 3, []) := by decide +kernel
theorem i103_16 : lk (mi_ins m103) 16 = some (.getstatic 18, 3, []) := by decide +kernel
theorem i103_19 : lk (mi_ins m103) 19 = some (.iload_n 0, 1, []) := by decide +kernel
theorem i103_20 : lk (mi_ins m103) 20 = some (.iaload, 1, []) := by decide +kernel
theorem i103_21 : lk (mi_ins m103) 21 = some (.ireturn, 1, [0]) := by decide +kernel
theorem i104_0 : lk (mi_ins m104) 0 = some (.aload_n 0, 1, []) := by decide +kernel
theorem i104_1 : lk (mi_ins m104) 1 = some (.aload_n 0, 1, []) := by decide +kernel
theorem i104_2 : lk (mi_ins m104) 2 = some (.invokevirtual 182, 3, []) := by decide +kernel
theorem i104_5 : lk (mi_ins m104) 5 = some (.iload_n 1, 1, []) := by decide +kernel
theorem i104_6 : lk (mi_ins m104) 6 = some (.iconst 0, 1, []) := by decide +kernel
theorem i104_7 : lk (mi_ins m104) 7 = some (.bipush 99, 2, []) := by decide +kernel
theorem i104_9 : lk (mi_ins m104) 9 = some (.invokestatic 87, 3, []) := by decide +kernel
theorem i104_12 : lk (mi_ins m104) 12 = some (.invokevirtual 91, 3, []) := by decide +kernel
theorem i104_15 : lk (mi_ins m104) 15 = some (.ifCond .eq 5, 3, []) := by decide +kernel
theorem i104_18 : lk (mi_ins m104) 18 = some (.iconst (-1), 1, []) := by decide +kernel
theorem i104_19 : lk (mi_ins m104) 19 = some (.ireturn, 1, []) := by decide +kernel
theorem i104_20 : lk (mi_ins m104) 20 = some (.aload_n 0, 1, []) := by decide +kernel
theorem i104_21 : lk (mi_ins m104) 21 = some (.getfield 40, 3, []) := by decide +kernel
theorem i104_24 : lk (mi_ins m104) 24 = some (.aload_n 0, 1, []) := by decide +kernel
theorem i104_25 : lk (mi_ins m104) 25 = some (.getfield 23, 3, []) := by decide +kernel
theorem i104_28 : lk (mi_ins m104) 28 = some (.aload_n 0, 1, []) := by decide +kernel
theorem i104_29 : lk (mi_ins m104) 29 = some (.getfield 30, 3, []) := by decide +kernel
theorem i104_32 : lk (mi_ins m104) 32 = some (.invokevirtual 130, 3, []) := by decide +kernel
theorem i104_35 : lk (mi_ins m104) 35 = some (.aload_n 0, 1, []) := by decide +kernel
theorem i104_36 : lk (mi_ins m104) 36 = some (.getfield 40, 3, []) := by decide +kernel
theorem i104_39 : lk (mi_ins m104) 39 = some (.iload_n 1, 1, []) := by decide +kernel
theorem i104_40 : lk (mi_ins m104) 40 = some (.invokevirtual 227, 3, []) := by decide +kernel
theorem i104_43 : lk (mi_ins m104) 43 = some (.ireturn, 1, []) := by decide +kernel
theorem i105_0 : lk (mi_ins m105) 0 = some (.iconst 0, 1, []) := by decide +kernel
theorem i105_1 : lk (mi_ins m105) 1 = some (.istore_n 2, 1, []) := by decide +kernel
theorem i105_2 : lk (mi_ins m105) 2 = some (.iconst 0, 1, []) := by decide +kernel
theorem i105_3 : lk (mi_ins m105) 3 = some (.istore_n 3, 1, []) := by decide +kernel
theorem i105_4 : lk (mi_ins m105) 4 = some (.iconst 0, 1, []) := by decide +kernel
theorem i105_5 : lk (mi_ins m105) 5 = some (.istore 4, 2, []) := by decide +kernel
theorem i105_7 : lk (mi_ins m105) 7 = some (.iload 4, 2, [5]) := by decide +kernel
theorem i105_9 : lk (mi_ins m105) 9 = some (.aload_n 0, 1, []) := by decide +kernel
theorem i105_10 : lk (mi_ins m105) 10 = some (.getfield 41, 3, []) := by decide +kernel
theorem i105_13 : lk (mi_ins m105) 13 = some (.if_icmp .ge 63, 3, []) := by decide +kernel
theorem i105_16 : lk (mi_ins m105) 16 = some (.aload_n 0, 1, []) := by decide +kernel
theorem i105_17 : lk (mi_ins m105) 17 = some (.getfield 9, 3, []) := by decide +kernel
theorem i105_20 : lk (mi_ins m105) 20 = some (.iload 4, 2, []) := by decide +kernel
theorem i105_22 : lk (mi_ins m105) 22 = some (.dup2, 1, []) := by decide +kernel
theorem i105_23 : lk (mi_ins m105) 23 = some (.iaload, 1, []) := by decide +kernel
theorem i105_24 : lk (mi_ins m105) 24 = some (.iload_n 1, 1, []) := by decide +kernel
theorem i105_25 : lk (mi_ins m105) 25 = some (.isub, 1, []) := by decide +kernel
theorem i105_26 : lk (mi_ins m105) 26 = some (.iastore, 1, []) := by decide +kernel
theorem i105_27 : lk (mi_ins m105) 27 = some (.aload_n 0, 1, []) := by decide +kernel
theorem i105_28 : lk (mi_ins m105) 28 = some (.invokevirtual 35, 3, []) := by decide +kernel
theorem i105_31 : lk (mi_ins m105) 31 = some (.aload_n 0, 1, []) := by decide +kernel
theorem i105_32 : lk (mi_ins m105) 32 = some (.getfield 9, 3, []) := by decide +kernel
theorem i105_35 : lk (mi_ins m105) 35 = some (.iload 4, 2, []) := by decide +kernel
theorem i105_37 : lk (mi_ins m105) 37 = some (.dup2, 1, []) := by decide +kernel
theorem i105_38 : lk (mi_ins m105) 38 = some (.iaload, 1, []) := by decide +kernel
theorem i105_39 : lk (mi_ins m105) 39 = some (.iload_n 1, 1, []) := by decide +kernel
theorem i105_40 : lk (mi_ins m105) 40 = some (.iadd, 1, []) := by decide +kernel
theorem i105_41 : lk (mi_ins m105) 41 = some (.iastore, 1, []) := by decide +kernel
theorem i105_42 : lk (mi_ins m105) 42 = some (.aload_n 0, 1, []) := by decide +kernel
theorem i105_43 : lk (mi_ins m105) 43 = some (.getfield 18, 3, []) := by decide +kernel
theorem i105_46 : lk (mi_ins m105) 46 = some (.aload_n 0, 1, []) := by decide +kernel
theorem i105_47 : lk (mi_ins m105) 47 = some (.invokevirtual 93, 3, []) := by decide +kernel
theorem i105_50 : lk (mi_ins m105) 50 = some (.iaload, 1, []) := by decide +kernel
theorem i105_51 : lk (mi_ins m105) 51 = some (.istore 5, 2, []) := by decide +kernel
theorem i105_53 : lk (mi_ins m105) 53 = some (.iload 4, 2, []) := by decide +kernel
theorem i105_55 : lk (mi_ins m105) 55 = some (.ifCond .eq 9, 3, []) := by decide +kernel
theorem i105_58 : lk (mi_ins m105) 58 = some (.iload 5, 2, []) := by decide +kernel
theorem i105_60 : lk (mi_ins m105) 60 = some (.iload_n 3, 1, []) := by decide +kernel
theorem i105_61 : lk (mi_ins m105) 61 = some (.if_icmp .le 9, 3, []) := by decide +kernel
theorem i105_64 : lk (mi_ins m105) 64 = some (.iload 5, 2, [2, 3]) := by decide +kernel
theorem i105_66 : lk (mi_ins m105) 66 = some (.istore_n 3, 1, []) := by decide +kernel
theorem i105_67 : lk (mi_ins m105) 67 = some (.iload 4, 2, []) := by decide +kernel
theorem i105_69 : lk (mi_ins m105) 69 = some (.istore_n 2, 1, []) := by decide +kernel
theorem i105_70 : lk (mi_ins m105) 70 = some (.iinc 4 1, 3, [5]) := by decide +kernel
theorem i105_73 : lk (mi_ins m105) 73 = some (.goto (-66), 3, []) := by decide +kernel
theorem i105_76 : lk (mi_ins m105) 76 = some (.iload_n 2, 1, [0, 1, 3, 4, 5]) := by decide +kernel
theorem i105_77 : lk (mi_ins m105) 77 = some (.ireturn, 1, []) := by decide +kernel
theorem i106_0 : lk (mi_ins m106) 0 = some (.aload_n 0, 1, []) := by decide +kernel
theorem i106_1 : lk (mi_ins m106) 1 = some (.aload_n 0, 1, []) := by decide +kernel
theorem i106_2 : lk (mi_ins m106) 2 = some (.iload_n 1, 1, []) := by decide +kernel
theorem i106_3 : lk (mi_ins m106) 3 = some (.invokevirtual 161, 3, []) := by decide +kernel
theorem i106_6 : lk (mi_ins m106) 6 = some (.iconst 0, 1, []) := by decide +kernel
theorem i106_7 : lk (mi_ins m106) 7 = some (.invokevirtual 91, 3, []) := by decide +kernel
theorem i106_10 : lk (mi_ins m106) 10 = some (.ifCond .eq 5, 3, []) := by decide +kernel
theorem i106_13 : lk (mi_ins m106) 13 = some (.iconst (-1), 1, []) := by decide +kernel
theorem i106_14 : lk (mi_ins m106) 14 = some (.ireturn, 1, []) := by decide +kernel
theorem i106_15 : lk (mi_ins m106) 15 = some (.aload_n 0, 1, []) := by decide +kernel
theorem i106_16 : lk (mi_ins m106) 16 = some (.getfield 40, 3, []) := by decide +kernel
theorem i106_19 : lk (mi_ins m106) 19 = some (.aload_n 0, 1, []) := by decide +kernel
theorem i106_20 : lk (mi_ins m106) 20 = some (.getfield 23, 3, []) := by decide +kernel
theorem i106_23 : lk (mi_ins m106) 23 = some (.aload_n 0, 1, []) := by decide +kernel
theorem i106_24 : lk (mi_ins m106) 24 = some (.getfield 30, 3, []) := by decide +kernel
theorem i106_27 : lk (mi_ins m106) 27 = some (.invokevirtual 130, 3, []) := by decide +kernel
theorem i106_30 : lk (mi_ins m106) 30 = some (.aload_n 0, 1, []) := by decide +kernel
theorem i106_31 : lk (mi_ins m106) 31 = some (.getfield 40, 3, []) := by decide +kernel
theorem i106_34 : lk (mi_ins m106) 34 = some (.getfield 230, 3, []) := by decide +kernel
theorem i106_37 : lk (mi_ins m106) 37 = some (.aload_n 0, 1, []) := by decide +kernel
theorem i106_38 : lk (mi_ins m106) 38 = some (.getfield 30, 3, []) := by decide +kernel
theorem i106_41 : lk (mi_ins m106) 41 = some (.getfield 167, 3, []) := by decide +kernel
theorem i106_44 : lk (mi_ins m106) 44 = some (.iload_n 1, 1, []) := by decide +kernel
theorem i106_45 : lk (mi_ins m106) 45 = some (.iaload, 1, []) := by decide +kernel
theorem i106_46 : lk (mi_ins m106) 46 = some (.dup2, 1, []) := by decide +kernel
theorem i106_47 : lk (mi_ins m106) 47 = some (.iaload, 1, []) := by decide +kernel
theorem i106_48 : lk (mi_ins m106) 48 = some (.aload_n 0, 1, []) := by decide +kernel
theorem i106_49 : lk (mi_ins m106) 49 = some (.getfield 23, 3, []) := by decide +kernel
theorem i106_52 : lk (mi_ins m106) 52 = some (.getfield 164, 3, []) := by decide +kernel
theorem i106_55 : lk (mi_ins m106) 55 = some (.iload_n 1, 1, []) := by decide +kernel
theorem i106_56 : lk (mi_ins m106) 56 = some (.iaload, 1, []) := by decide +kernel
theorem i106_57 : lk (mi_ins m106) 57 = some (.iadd, 1, []) := by decide +kernel
theorem i106_58 : lk (mi_ins m106) 58 = some (.iastore, 1, []) := by decide +kernel
theorem i106_59 : lk (mi_ins m106) 59 = some (.aload_n 0, 1, []) := by decide +kernel
theorem i106_60 : lk (mi_ins m106) 60 = some (.getfield 40, 3, []) := by decide +kernel
theorem i106_63 : lk (mi_ins m106) 63 = some (.aload_n 0, 1, []) := by decide +kernel
theorem i106_64 : lk (mi_ins m106) 64 = some (.getfield 23, 3, []) := by decide +kernel
theorem i106_67 : lk (mi_ins m106) 67 = some (.getfield 164, 3, []) := by decide +kernel
theorem i106_70 : lk (mi_ins m106) 70 = some (.iload_n 1, 1, []) := by decide +kernel
theorem i106_71 : lk (mi_ins m106) 71 = some (.iaload, 1, []) := by decide +kernel
theorem i106_72 : lk (mi_ins m106) 72 = some (.invokevirtual 227, 3, []) := by decide +kernel
theorem i106_75 : lk (mi_ins m106) 75 = some (.ireturn, 1, []) := by decide +kernel
theorem i107_0 : lk (mi_ins m107) 0 = some (.aload_n 0, 1, []) := by decide +kernel
theorem i107_1 : lk (mi_ins m107) 1 = some (.aload_n 0, 1, []) := by decide +kernel
theorem i107_2 : lk (mi_ins m107) 2 = some (.invokevirtual 182, 3, []) := by decide +kernel
theorem i107_5 : lk (mi_ins m107) 5 = some (.iconst 0, 1, []) := by decide +kernel
theorem i107_6 : lk (mi_ins m107) 6 = some (.invokevirtual 91, 3, []) := by decide +kernel
theorem i107_9 : lk (mi_ins m107) 9 = some (.ifCond .eq 5, 3, []) := by decide +kernel
theorem i107_12 : lk (mi_ins m107) 12 = some (.iconst (-1), 1, []) := by decide +kernel
theorem i107_13 : lk (mi_ins m107) 13 = some (.ireturn, 1, []) := by decide +kernel
theorem i107_14 : lk (mi_ins m107) 14 = some (.aload_n 0, 1, []) := by decide +kernel
theorem i107_15 : lk (mi_ins m107) 15 = some (.getfield 40, 3, []) := by decide +kernel
theorem i107_18 : lk (mi_ins m107) 18 = some (.aload_n 0, 1, []) := by decide +kernel
theorem i107_19 : lk (mi_ins m107) 19 = some (.getfield 23, 3, []) := by decide +kernel
theorem i107_22 : lk (mi_ins m107) 22 = some (.aload_n 0, 1, []) := by decide +kernel
theorem i107_23 : lk (mi_ins m107) 23 = some (.getfield 30, 3, []) := by decide +kernel
theorem i107_26 : lk (mi_ins m107) 26 = some (.invokevirtual 130, 3, []) := by decide +kernel
theorem i107_29 : lk (mi_ins m107) 29 = some (.aload_n 0, 1, []) := by decide +kernel
theorem i107_30 : lk (mi_ins m107) 30 = some (.getfield 40, 3, []) := by decide +kernel
theorem i107_33 : lk (mi_ins m107) 33 = some (.invokevirtual 233, 3, []) := by decide +kernel
theorem i107_36 : lk (mi_ins m107) 36 = some (.istore_n 1, 1, []) := by decide +kernel
theorem i107_37 : lk (mi_ins m107) 37 = some (.bipush (-2), 2, []) := by decide +kernel
theorem i107_39 : lk (mi_ins m107) 39 = some (.istore_n 2, 1, []) := by decide +kernel
theorem i107_40 : lk (mi_ins m107) 40 = some (.iconst 0, 1, []) := by decide +kernel
theorem i107_41 : lk (mi_ins m107) 41 = some (.istore_n 3, 1, []) := by decide +kernel
theorem i107_42 : lk (mi_ins m107) 42 = some (.iload_n 3, 1, [4]) := by decide +kernel
theorem i107_43 : lk (mi_ins m107) 43 = some (.aload_n 0, 1, []) := by decide +kernel
theorem i107_44 : lk (mi_ins m107) 44 = some (.getfield 23, 3, []) := by decide +kernel
theorem i107_47 : lk (mi_ins m107) 47 = some (.getfield 236, 3, []) := by decide +kernel
theorem i107_50 : lk (mi_ins m107) 50 = some (.if_icmp .ge 71, 3, []) := by decide +kernel
theorem i107_53 : lk (mi_ins m107) 53 = some (.aload_n 0, 1, []) := by decide +kernel
theorem i107_54 : lk (mi_ins m107) 54 = some (.getfield 30, 3, []) := by decide +kernel
theorem i107_57 : lk (mi_ins m107) 57 = some (.iload_n 3, 1, []) := by decide +kernel
theorem i107_58 : lk (mi_ins m107) 58 = some (.invokevirtual 173, 3, []) := by decide +kernel
theorem i107_61 : lk (mi_ins m107) 61 = some (.ifCond .eq 54, 3, []) := by decide +kernel
theorem i107_64 : lk (mi_ins m107) 64 = some (.aload_n 0, 1, []) := by decide +kernel
theorem i107_65 : lk (mi_ins m107) 65 = some (.getfield 40, 3, []) := by decide +kernel
theorem i107_68 : lk (mi_ins m107) 68 = some (.aload_n 0, 1, []) := by decide +kernel
theorem i107_69 : lk (mi_ins m107) 69 = some (.getfield 23, 3, []) := by decide +kernel
theorem i107_72 : lk (mi_ins m107) 72 = some (.aload_n 0, 1, []) := by decide +kernel
theorem i107_73 : lk (mi_ins m107) 73 = some (.getfield 30, 3, []) := by decide +kernel
theorem i107_76 : lk (mi_ins m107) 76 = some (.getfield 239, 3, []) := by decide +kernel
theorem i107_79 : lk (mi_ins m107) 79 = some (.iconst 1, 1, []) := by decide +kernel
theorem i107_80 : lk (mi_ins m107) 80 = some (.iload_n 3, 1, []) := by decide +kernel
theorem i107_81 : lk (mi_ins m107) 81 = some (.ishl, 1, []) := by decide +kernel
theorem i107_82 : lk (mi_ins m107) 82 = some (.iconst (-1), 1, []) := by decide +kernel
theorem i107_83 : lk (mi_ins m107) 83 = some (.ixor, 1, []) := by decide +kernel
theorem i107_84 : lk (mi_ins m107) 84 = some (.iand, 1, []) := by decide +kernel
theorem i107_85 : lk (mi_ins m107) 85 = some (.invokevirtual 242, 3, []) := by decide +kernel
theorem i107_88 : lk (mi_ins m107) 88 = some (.aload_n 0, 1, []) := by decide +kernel
theorem i107_89 : lk (mi_ins m107) 89 = some (.getfield 40, 3, []) := by decide +kernel
theorem i107_92 : lk (mi_ins m107) 92 = some (.invokevirtual 246, 3, []) := by decide +kernel
theorem i107_95 : lk (mi_ins m107) 95 = some (.aload_n 0, 1, []) := by decide +kernel
theorem i107_96 : lk (mi_ins m107) 96 = some (.getfield 40, 3, []) := by decide +kernel
theorem i107_99 : lk (mi_ins m107) 99 = some (.invokevirtual 233, 3, []) := by decide +kernel
theorem i107_102 : lk (mi_ins m107) 102 = some (.istore 4, 2, []) := by decide +kernel
theorem i107_104 : lk (mi_ins m107) 104 = some (.iload 4, 2, []) := by decide +kernel
theorem i107_106 : lk (mi_ins m107) 106 = some (.iload_n 1, 1, []) := by decide +kernel
theorem i107_107 : lk (mi_ins m107) 107 = some (.if_icmp .le 8, 3, []) := by decide +kernel
theorem i107_110 : lk (mi_ins m107) 110 = some (.iload 4, 2, []) := by decide +kernel
theorem i107_112 : lk (mi_ins m107) 112 = some (.istore_n 1, 1, []) := by decide +kernel
theorem i107_113 : lk (mi_ins m107) 113 = some (.iload_n 3, 1, []) := by decide +kernel
theorem i107_114 : lk (mi_ins m107) 114 = some (.istore_n 2, 1, []) := by decide +kernel
theorem i107_115 : lk (mi_ins m107) 115 = some (.iinc 3 1, 3, [4]) := by decide +kernel
theorem i107_118 : lk (mi_ins m107) 118 = some (.goto (-76), 3, []) := by decide +kernel
theorem i107_121 : lk (mi_ins m107) 121 = some (.iload_n 2, 1, [0, 1, 3, 4]) := by decide +kernel
theorem i107_122 : lk (mi_ins m107) 122 = some (.ireturn, 1, []) := by decide +kernel
theorem i108_0 : lk (mi_ins m108) 0 = some (.aload_n 0, 1, []) := by decide +kernel
theorem i108_1 : lk (mi_ins m108) 1 = some (.getfield 41, 3, []) := by decide +kernel
theorem i108_4 : lk (mi_ins m108) 4 = some (.aload_n 0, 1, []) := by decide +kernel
theorem i108_5 : lk (mi_ins m108) 5 = some (.invokevirtual 83, 3, []) := by decide +kernel
theorem i108_8 : lk (mi_ins m108) 8 = some (.invokestatic 78, 3, []) := by decide +kernel
theorem i108_11 : lk (mi_ins m108) 11 = some (.isub, 1, []) := by decide +kernel
theorem i108_12 : lk (mi_ins m108) 12 = some (.ireturn, 1, []) := by decide +kernel
theorem i109_0 : lk (mi_ins m109) 0 = some (.aload_n 0, 1, []) := by decide +kernel
theorem i109_1 : lk (mi_ins m109) 1 = some (.aload_n 0, 1, []) := by decide +kernel
theorem i109_2 : lk (mi_ins m109) 2 = some (.invokevirtual 182, 3, []) := by decide +kernel
theorem i109_5 : lk (mi_ins m109) 5 = some (.iload_n 1, 1, []) := by decide +kernel
theorem i109_6 : lk (mi_ins m109) 6 = some (.iconst 1, 1, []) := by decide +kernel
theorem i109_7 : lk (mi_ins m109) 7 = some (.iconst 4, 1, []) := by decide +kernel
theorem i109_8 : lk (mi_ins m109) 8 = some (.invokestatic 87, 3, []) := by decide +kernel
theorem i109_11 : lk (mi_ins m109) 11 = some (.invokevirtual 91, 3, []) := by decide +kernel
theorem i109_14 : lk (mi_ins m109) 14 = some (.ifCond .eq 5, 3, []) := by decide +kernel
theorem i109_17 : lk (mi_ins m109) 17 = some (.iconst (-1), 1, []) := by decide +kernel
theorem i109_18 : lk (mi_ins m109) 18 = some (.ireturn, 1, []) := by decide +kernel
theorem i109_19 : lk (mi_ins m109) 19 = some (.aload_n 0, 1, []) := by decide +kernel
theorem i109_20 : lk (mi_ins m109) 20 = some (.getfield 54, 3, []) := by decide +kernel
theorem i109_23 : lk (mi_ins m109) 23 = some (.aload_n 0, 1, []) := by decide +kernel
theorem i109_24 : lk (mi_ins m109) 24 = some (.getfield 23, 3, []) := by decide +kernel
theorem i109_27 : lk (mi_ins m109) 27 = some (.aload_n 0, 1, []) := by decide +kernel
theorem i109_28 : lk (mi_ins m109) 28 = some (.getfield 30, 3, []) := by decide +kernel
theorem i109_31 : lk (mi_ins m109) 31 = some (.iload_n 1, 1, []) := by decide +kernel
theorem i109_32 : lk (mi_ins m109) 32 = some (.iconst 0, 1, []) := by decide +kernel
theorem i109_33 : lk (mi_ins m109) 33 = some (.invokevirtual 249, 3, []) := by decide +kernel
theorem i109_36 : lk (mi_ins m109) 36 = some (.aload_n 0, 1, []) := by decide +kernel
theorem i109_37 : lk (mi_ins m109) 37 = some (.getfield 54, 3, []) := by decide +kernel
theorem i109_40 : lk (mi_ins m109) 40 = some (.getfield 253, 3, []) := by decide +kernel
theorem i109_43 : lk (mi_ins m109) 43 = some (.ireturn, 1, []) := by decide +kernel
theorem i110_0 : lk (mi_ins m110) 0 = some (.aload_n 0, 1, []) := by decide +kernel
theorem i110_1 : lk (mi_ins m110) 1 = some (.iload_n 3, 1, []) := by decide +kernel
theorem i110_2 : lk (mi_ins m110) 2 = some (.putfield 47, 3, []) := by decide +kernel
theorem i110_5 : lk (mi_ins m110) 5 = some (.aload_n 0, 1, []) := by decide +kernel
theorem i110_6 : lk (mi_ins m110) 6 = some (.bipush (-2), 2, []) := by decide +kernel
theorem i110_8 : lk (mi_ins m110) 8 = some (.putfield 43, 3, []) := by decide +kernel
theorem i110_11 : lk (mi_ins m110) 11 = some (.iconst 0, 1, []) := by decide +kernel
theorem i110_12 : lk (mi_ins m110) 12 = some (.istore 5, 2, []) := by decide +kernel
theorem i110_14 : lk (mi_ins m110) 14 = some (.iload 5, 2, [3]) := by decide +kernel
theorem i110_16 : lk (mi_ins m110) 16 = some (.aload_n 0, 1, []) := by decide +kernel
theorem i110_17 : lk (mi_ins m110) 17 = some (.getfield 27, 3, []) := by decide +kernel
theorem i110_20 : lk (mi_ins m110) 20 = some (.arraylength, 1, []) := by decide +kernel
theorem i110_21 : lk (mi_ins m110) 21 = some (.if_icmp .ge 17, 3, []) := by decide +kernel
theorem i110_24 : lk (mi_ins m110) 24 = some (.aload_n 0, 1, []) := by decide +kernel
theorem i110_25 : lk (mi_ins m110) 25 = some (.getfield 27, 3, []) := by decide +kernel
theorem i110_28 : lk (mi_ins m110) 28 = some (.iload 5, 2, []) := by decide +kernel
theorem i110_30 : lk (mi_ins m110) 30 = some (.iconst 0, 1, []) := by decide +kernel
theorem i110_31 : lk (mi_ins m110) 31 = some (.iastore, 1, []) := by decide +kernel
theorem i110_32 : lk (mi_ins m110) 32 = some (.iinc 5 1, 3, []) := by decide +kernel
theorem i110_35 : lk (mi_ins m110) 35 = some (.goto (-21), 3, []) := by decide +kernel
theorem i110_38 : lk (mi_ins m110) 38 = some (.aload_n 0, 1, [3, 5]) := by decide +kernel
theorem i110_39 : lk (mi_ins m110) 39 = some (.getfield 21, 3, []) := by decide +kernel
theorem i110_42 : lk (mi_ins m110) 42 = some (.aload_n 2, 1, []) := by decide +kernel
theorem i110_43 : lk (mi_ins m110) 43 = some (.invokevirtual 50, 3, []) := by decide +kernel
theorem i110_46 : lk (mi_ins m110) 46 = some (.iconst 0, 1, []) := by decide +kernel
theorem i110_47 : lk (mi_ins m110) 47 = some (.istore 5, 2, []) := by decide +kernel
theorem i110_49 : lk (mi_ins m110) 49 = some (.iload 5, 2, [2, 3]) := by decide +kernel
theorem i110_51 : lk (mi_ins m110) 51 = some (.iconst 4, 1, []) := by decide +kernel
theorem i110_52 : lk (mi_ins m110) 52 = some (.if_icmp .ge 50, 3, []) := by decide +kernel
theorem i110_55 : lk (mi_ins m110) 55 = some (.aload_n 0, 1, []) := by decide +kernel
theorem i110_56 : lk (mi_ins m110) 56 = some (.getfield 12, 3, []) := by decide +kernel
theorem i110_59 : lk (mi_ins m110) 59 = some (.aload_n 1, 1, []) := by decide +kernel
theorem i110_60 : lk (mi_ins m110) 60 = some (.aload_n 0, 1, []) := by decide +kernel
theorem i110_61 : lk (mi_ins m110) 61 = some (.getfield 21, 3, []) := by decide +kernel
theorem i110_64 : lk (mi_ins m110) 64 = some (.invokevirtual 54, 3, []) := by decide +kernel
theorem i110_67 : lk (mi_ins m110) 67 = some (.iload 5, 2, []) := by decide +kernel
theorem i110_69 : lk (mi_ins m110) 69 = some (.ifCond .ne 8, 3, []) := by decide +kernel
theorem i110_72 : lk (mi_ins m110) 72 = some (.aload_n 0, 1, []) := by decide +kernel
theorem i110_73 : lk (mi_ins m110) 73 = some (.aload_n 1, 1, []) := by decide +kernel
theorem i110_74 : lk (mi_ins m110) 74 = some (.invokevirtual 58, 3, []) := by decide +kernel
theorem i110_77 : lk (mi_ins m110) 77 = some (.iload 4, 2, [2, 3]) := by decide +kernel
theorem i110_79 : lk (mi_ins m110) 79 = some (.ifCond .eq 10, 3, []) := by decide +kernel
theorem i110_82 : lk (mi_ins m110) 82 = some (.aload_n 0, 1, []) := by decide +kernel
theorem i110_83 : lk (mi_ins m110) 83 = some (.aload_n 1, 1, []) := by decide +kernel
theorem i110_84 : lk (mi_ins m110) 84 = some (.iload 5, 2, []) := by decide +kernel
theorem i110_86 : lk (mi_ins m110) 86 = some (.invokevirtual 62, 3, []) := by decide +kernel
theorem i110_89 : lk (mi_ins m110) 89 = some (.aload_n 0, 1, [2, 3]) := by decide +kernel
theorem i110_90 : lk (mi_ins m110) 90 = some (.getfield 21, 3, []) := by decide +kernel
theorem i110_93 : lk (mi_ins m110) 93 = some (.invokevirtual 66, 3, []) := by decide +kernel
theorem i110_96 : lk (mi_ins m110) 96 = some (.iinc 5 1, 3, []) := by decide +kernel
theorem i110_99 : lk (mi_ins m110) 99 = some (.goto (-50), 3, []) := by decide +kernel
theorem i110_102 : lk (mi_ins m110) 102 = some (.aload_n 0, 1, [2, 3, 4, 5]) := by decide +kernel
theorem i110_103 : lk (mi_ins m110) 103 = some (.aload_n 1, 1, []) := by decide +kernel
theorem i110_104 : lk (mi_ins m110) 104 = some (.iconst 0, 1, []) := by decide +kernel
theorem i110_105 : lk (mi_ins m110) 105 = some (.iconst 0, 1, []) := by decide +kernel
theorem i110_106 : lk (mi_ins m110) 106 = some (.invokevirtual 69, 3, []) := by decide +kernel
theorem i110_109 : lk (mi_ins m110) 109 = some (.return_, 1, []) := by decide +kernel
theorem i111_0 : lk (mi_ins m111) 0 = some (.iconst 0, 1, []) := by decide +kernel
theorem i111_1 : lk (mi_ins m111) 1 = some (.istore_n 2, 1, []) := by decide +kernel
theorem i111_2 : lk (mi_ins m111) 2 = some (.iload_n 2, 1, []) := by decide +kernel
theorem i111_3 : lk (mi_ins m111) 3 = some (.aload_n 1, 1, []) := by decide +kernel
theorem i111_4 : lk (mi_ins m111) 4 = some (.getfield 73, 3, []) := by decide +kernel
theorem i111_7 : lk (mi_ins m111) 7 = some (.if_icmp .ge 16, 3, []) := by decide +kernel
theorem i111_10 : lk (mi_ins m111) 10 = some (.aload_n 0, 1, []) := by decide +kernel
theorem i111_11 : lk (mi_ins m111) 11 = some (.iload_n 2, 1, []) := by decide +kernel
theorem i111_12 : lk (mi_ins m111) 12 = some (.iconst 0, 1, []) := by decide +kernel
theorem i111_13 : lk (mi_ins m111) 13 = some (.iconst 0, 1, []) := by decide +kernel
theorem i111_14 : lk (mi_ins m111) 14 = some (.invokevirtual 76, 3, []) := by decide +kernel
theorem i111_17 : lk (mi_ins m111) 17 = some (.iinc 2 1, 3, []) := by decide +kernel
theorem i111_20 : lk (mi_ins m111) 20 = some (.goto (-18), 3, []) := by decide +kernel
theorem i111_23 : lk (mi_ins m111) 23 = some (.return_, 1, [0, 1, 2]) := by decide +kernel
theorem i112_0 : lk (mi_ins m112) 0 = some (.aload_n 0, 1, []) := by decide +kernel
theorem i112_1 : lk (mi_ins m112) 1 = some (.getfield 12, 3, []) := by decide +kernel
theorem i112_4 : lk (mi_ins m112) 4 = some (.iload_n 1, 1, []) := by decide +kernel
theorem i112_5 : lk (mi_ins m112) 5 = some (.invokevirtual 98, 3, []) := by decide +kernel
theorem i112_8 : lk (mi_ins m112) 8 = some (.iconst 4, 1, []) := by decide +kernel
theorem i112_9 : lk (mi_ins m112) 9 = some (.imul, 1, []) := by decide +kernel
theorem i112_10 : lk (mi_ins m112) 10 = some (.iload_n 2, 1, []) := by decide +kernel
theorem i112_11 : lk (mi_ins m112) 11 = some (.iadd, 1, []) := by decide +kernel
theorem i112_12 : lk (mi_ins m112) 12 = some (.istore 4, 2, []) := by decide +kernel
theorem i112_14 : lk (mi_ins m112) 14 = some (.aload_n 0, 1, []) := by decide +kernel
theorem i112_15 : lk (mi_ins m112) 15 = some (.getfield 27, 3, []) := by decide +kernel
theorem i112_18 : lk (mi_ins m112) 18 = some (.iload 4, 2, []) := by decide +kernel
theorem i112_20 : lk (mi_ins m112) 20 = some (.aload_n 0, 1, []) := by decide +kernel
theorem i112_21 : lk (mi_ins m112) 21 = some (.getfield 27, 3, []) := by decide +kernel
theorem i112_24 : lk (mi_ins m112) 24 = some (.iload 4, 2, []) := by decide +kernel
theorem i112_26 : lk (mi_ins m112) 26 = some (.iaload, 1, []) := by decide +kernel
theorem i112_27 : lk (mi_ins m112) 27 = some (.iload_n 3, 1, []) := by decide +kernel
theorem i112_28 : lk (mi_ins m112) 28 = some (.aload_n 0, 1, []) := by decide +kernel
theorem i112_29 : lk (mi_ins m112) 29 = some (.getfield 12, 3, []) := by decide +kernel
theorem i112_32 : lk (mi_ins m112) 32 = some (.iload_n 1, 1, []) := by decide +kernel
theorem i112_33 : lk (mi_ins m112) 33 = some (.invokevirtual 102, 3, []) := by decide +kernel
theorem i112_36 : lk (mi_ins m112) 36 = some (.imul, 1, []) := by decide +kernel
theorem i112_37 : lk (mi_ins m112) 37 = some (.aload_n 0, 1, []) := by decide +kernel
theorem i112_38 : lk (mi_ins m112) 38 = some (.getfield 12, 3, []) := by decide +kernel
theorem i112_41 : lk (mi_ins m112) 41 = some (.iload_n 1, 1, []) := by decide +kernel
theorem i112_42 : lk (mi_ins m112) 42 = some (.invokevirtual 105, 3, []) := by decide +kernel
theorem i112_45 : lk (mi_ins m112) 45 = some (.isub, 1, []) := by decide +kernel
theorem i112_46 : lk (mi_ins m112) 46 = some (.invokestatic 108, 3, []) := by decide +kernel
theorem i112_49 : lk (mi_ins m112) 49 = some (.iastore, 1, []) := by decide +kernel
theorem i112_50 : lk (mi_ins m112) 50 = some (.return_, 1, []) := by decide +kernel
theorem i113_0 : lk (mi_ins m113) 0 = some (.iconst 0, 1, []) := by decide +kernel
theorem i113_1 : lk (mi_ins m113) 1 = some (.istore_n 3, 1, []) := by decide +kernel
theorem i113_2 : lk (mi_ins m113) 2 = some (.iload_n 3, 1, []) := by decide +kernel
theorem i113_3 : lk (mi_ins m113) 3 = some (.aload_n 1, 1, []) := by decide +kernel
theorem i113_4 : lk (mi_ins m113) 4 = some (.getfield 80, 3, []) := by decide +kernel
theorem i113_7 : lk (mi_ins m113) 7 = some (.if_icmp .ge 40, 3, []) := by decide +kernel
theorem i113_10 : lk (mi_ins m113) 10 = some (.aload_n 1, 1, []) := by decide +kernel
theorem i113_11 : lk (mi_ins m113) 11 = some (.getfield 83, 3, []) := by decide +kernel
theorem i113_14 : lk (mi_ins m113) 14 = some (.iload_n 3, 1, []) := by decide +kernel
theorem i113_15 : lk (mi_ins m113) 15 = some (.iaload, 1, []) := by decide +kernel
theorem i113_16 : lk (mi_ins m113) 16 = some (.iconst 3, 1, []) := by decide +kernel
theorem i113_17 : lk (mi_ins m113) 17 = some (.invokestatic 86, 3, []) := by decide +kernel
theorem i113_20 : lk (mi_ins m113) 20 = some (.iload_n 2, 1, []) := by decide +kernel
theorem i113_21 : lk (mi_ins m113) 21 = some (.if_icmp .ne 20, 3, []) := by decide +kernel
theorem i113_24 : lk (mi_ins m113) 24 = some (.aload_n 0, 1, []) := by decide +kernel
theorem i113_25 : lk (mi_ins m113) 25 = some (.aload_n 1, 1, []) := by decide +kernel
theorem i113_26 : lk (mi_ins m113) 26 = some (.getfield 92, 3, []) := by decide +kernel
theorem i113_29 : lk (mi_ins m113) 29 = some (.iload_n 3, 1, []) := by decide +kernel
theorem i113_30 : lk (mi_ins m113) 30 = some (.iaload, 1, []) := by decide +kernel
theorem i113_31 : lk (mi_ins m113) 31 = some (.iload_n 2, 1, []) := by decide +kernel
theorem i113_32 : lk (mi_ins m113) 32 = some (.aload_n 1, 1, []) := by decide +kernel
theorem i113_33 : lk (mi_ins m113) 33 = some (.getfield 95, 3, []) := by decide +kernel
theorem i113_36 : lk (mi_ins m113) 36 = some (.iload_n 3, 1, []) := by decide +kernel
theorem i113_37 : lk (mi_ins m113) 37 = some (.iaload, 1, []) := by decide +kernel
theorem i113_38 : lk (mi_ins m113) 38 = some (.invokevirtual 76, 3, []) := by decide +kernel
theorem i113_41 : lk (mi_ins m113) 41 = some (.iinc 3 1, 3, []) := by decide +kernel
theorem i113_44 : lk (mi_ins m113) 44 = some (.goto (-42), 3, []) := by decide +kernel
theorem i113_47 : lk (mi_ins m113) 47 = some (.return_, 1, [0, 1, 2, 3]) := by decide +kernel
theorem i114_0 : lk (mi_ins m114) 0 = some (.aload_n 0, 1, []) := by decide +kernel
theorem i114_1 : lk (mi_ins m114) 1 = some (.getfield 43, 3, []) := by decide +kernel
theorem i114_4 : lk (mi_ins m114) 4 = some (.ifCond .lt 11, 3, []) := by decide +kernel
theorem i114_7 : lk (mi_ins m114) 7 = some (.iload_n 3, 1, []) := by decide +kernel
theorem i114_8 : lk (mi_ins m114) 8 = some (.aload_n 0, 1, []) := by decide +kernel
theorem i114_9 : lk (mi_ins m114) 9 = some (.getfield 43, 3, []) := by decide +kernel
theorem i114_12 : lk (mi_ins m114) 12 = some (.if_icmp .ge 20, 3, []) := by decide +kernel
theorem i114_15 : lk (mi_ins m114) 15 = some (.aload_n 0, 1, [4, 5, 6]) := by decide +kernel
theorem i114_16 : lk (mi_ins m114) 16 = some (.aload_n 1, 1, []) := by decide +kernel
theorem i114_17 : lk (mi_ins m114) 17 = some (.getfield 73, 3, []) := by decide +kernel
theorem i114_20 : lk (mi_ins m114) 20 = some (.invokevirtual 111, 3, []) := by decide +kernel
theorem i114_23 : lk (mi_ins m114) 23 = some (.aload_n 1, 1, []) := by decide +kernel
theorem i114_24 : lk (mi_ins m114) 24 = some (.getfield 114, 3, []) := by decide +kernel
theorem i114_27 : lk (mi_ins m114) 27 = some (.iload_n 2, 1, []) := by decide +kernel
theorem i114_28 : lk (mi_ins m114) 28 = some (.isub, 1, []) := by decide +kernel
theorem i114_29 : lk (mi_ins m114) 29 = some (.if_icmp .le 4, 3, []) := by decide +kernel
theorem i114_32 : lk (mi_ins m114) 32 = some (.return_, 1, [0, 1, 2, 3, 4, 5, 6]) := by decide +kernel
theorem i114_33 : lk (mi_ins m114) 33 = some (.iload_n 2, 1, []) := by decide +kernel
theorem i114_34 : lk (mi_ins m114) 34 = some (.aload_n 1, 1, []) := by decide +kernel
theorem i114_35 : lk (mi_ins m114) 35 = some (.getfield 114, 3, []) := by decide +kernel
theorem i114_38 : lk (mi_ins m114) 38 = some (.if_icmp .lt 45, 3, []) := by decide +kernel
theorem i114_41 : lk (mi_ins m114) 41 = some (.aload_n 0, 1, []) := by decide +kernel
theorem i114_42 : lk (mi_ins m114) 42 = some (.iload_n 3, 1, []) := by decide +kernel
theorem i114_43 : lk (mi_ins m114) 43 = some (.putfield 43, 3, []) := by decide +kernel
theorem i114_46 : lk (mi_ins m114) 46 = some (.aload_n 0, 1, []) := by decide +kernel
theorem i114_47 : lk (mi_ins m114) 47 = some (.getfield 31, 3, []) := by decide +kernel
theorem i114_50 : lk (mi_ins m114) 50 = some (.iconst 0, 1, []) := by decide +kernel
theorem i114_51 : lk (mi_ins m114) 51 = some (.aload_n 0, 1, []) := by decide +kernel
theorem i114_52 : lk (mi_ins m114) 52 = some (.getfield 37, 3, []) := by decide +kernel
theorem i114_55 : lk (mi_ins m114) 55 = some (.iconst 0, 1, []) := by decide +kernel
theorem i114_56 : lk (mi_ins m114) 56 = some (.aload_n 0, 1, []) := by decide +kernel
theorem i114_57 : lk (mi_ins m114) 57 = some (.getfield 37, 3, []) := by decide +kernel
theorem i114_60 : lk (mi_ins m114) 60 = some (.arraylength, 1, []) := by decide +kernel
theorem i114_61 : lk (mi_ins m114) 61 = some (.invokestatic 117, 3, []) := by decide +kernel
theorem i114_64 : lk (mi_ins m114) 64 = some (.aload_n 0, 1, []) := by decide +kernel
theorem i114_65 : lk (mi_ins m114) 65 = some (.getfield 34, 3, []) := by decide +kernel
theorem i114_68 : lk (mi_ins m114) 68 = some (.iconst 0, 1, []) := by decide +kernel
theorem i114_69 : lk (mi_ins m114) 69 = some (.aload_n 0, 1, []) := by decide +kernel
theorem i114_70 : lk (mi_ins m114) 70 = some (.getfield 40, 3, []) := by decide +kernel
theorem i114_73 : lk (mi_ins m114) 73 = some (.iconst 0, 1, []) := by decide +kernel
theorem i114_74 : lk (mi_ins m114) 74 = some (.aload_n 0, 1, []) := by decide +kernel
theorem i114_75 : lk (mi_ins m114) 75 = some (.getfield 40, 3, []) := by decide +kernel
theorem i114_78 : lk (mi_ins m114) 78 = some (.arraylength, 1, []) := by decide +kernel
theorem i114_79 : lk (mi_ins m114) 79 = some (.invokestatic 117, 3, []) := by decide +kernel
theorem i114_82 : lk (mi_ins m114) 82 = some (.return_, 1, []) := by decide +kernel
theorem i114_83 : lk (mi_ins m114) 83 = some (.aload_n 0, 1, []) := by decide +kernel
theorem i114_84 : lk (mi_ins m114) 84 = some (.getfield 31, 3, []) := by decide +kernel
theorem i114_87 : lk (mi_ins m114) 87 = some (.iload_n 2, 1, []) := by decide +kernel
theorem i114_88 : lk (mi_ins m114) 88 = some (.iconst 0, 1, []) := by decide +kernel
theorem i114_89 : lk (mi_ins m114) 89 = some (.iastore, 1, []) := by decide +kernel
theorem i114_90 : lk (mi_ins m114) 90 = some (.aload_n 0, 1, []) := by decide +kernel
theorem i114_91 : lk (mi_ins m114) 91 = some (.aload_n 1, 1, []) := by decide +kernel
theorem i114_92 : lk (mi_ins m114) 92 = some (.iload_n 2, 1, []) := by decide +kernel
theorem i114_93 : lk (mi_ins m114) 93 = some (.iconst 1, 1, []) := by decide +kernel
theorem i114_94 : lk (mi_ins m114) 94 = some (.iadd, 1, []) := by decide +kernel
theorem i114_95 : lk (mi_ins m114) 95 = some (.iload_n 3, 1, []) := by decide +kernel
theorem i114_96 : lk (mi_ins m114) 96 = some (.invokevirtual 69, 3, []) := by decide +kernel
theorem i114_99 : lk (mi_ins m114) 99 = some (.iconst 1, 1, []) := by decide +kernel
theorem i114_100 : lk (mi_ins m114) 100 = some (.istore 4, 2, []) := by decide +kernel
theorem i114_102 : lk (mi_ins m114) 102 = some (.iload 4, 2, [5, 6]) := by decide +kernel
theorem i114_104 : lk (mi_ins m114) 104 = some (.aload_n 0, 1, []) := by decide +kernel
theorem i114_105 : lk (mi_ins m114) 105 = some (.getfield 47, 3, []) := by decide +kernel
theorem i114_108 : lk (mi_ins m114) 108 = some (.if_icmp .gt 104, 3, []) := by decide +kernel
theorem i114_111 : lk (mi_ins m114) 111 = some (.iload 4, 2, []) := by decide +kernel
theorem i114_113 : lk (mi_ins m114) 113 = some (.aload_n 1, 1, []) := by decide +kernel
theorem i114_114 : lk (mi_ins m114) 114 = some (.getfield 123, 3, []) := by decide +kernel
theorem i114_117 : lk (mi_ins m114) 117 = some (.iload_n 2, 1, []) := by decide +kernel
theorem i114_118 : lk (mi_ins m114) 118 = some (.iaload, 1, []) := by decide +kernel
theorem i114_119 : lk (mi_ins m114) 119 = some (.imul, 1, []) := by decide +kernel
theorem i114_120 : lk (mi_ins m114) 120 = some (.istore 5, 2, []) := by decide +kernel
theorem i114_122 : lk (mi_ins m114) 122 = some (.iconst 0, 1, []) := by decide +kernel
theorem i114_123 : lk (mi_ins m114) 123 = some (.istore 6, 2, []) := by decide +kernel
theorem i114_125 : lk (mi_ins m114) 125 = some (.iload 6, 2, []) := by decide +kernel
theorem i114_127 : lk (mi_ins m114) 127 = some (.aload_n 1, 1, []) := by decide +kernel
theorem i114_128 : lk (mi_ins m114) 128 = some (.getfield 73, 3, []) := by decide +kernel
theorem i114_131 : lk (mi_ins m114) 131 = some (.if_icmp .ge 75, 3, []) := by decide +kernel
theorem i114_134 : lk (mi_ins m114) 134 = some (.aload_n 0, 1, []) := by decide +kernel
theorem i114_135 : lk (mi_ins m114) 135 = some (.iload 6, 2, []) := by decide +kernel
theorem i114_137 : lk (mi_ins m114) 137 = some (.invokevirtual 126, 3, []) := by decide +kernel
theorem i114_140 : lk (mi_ins m114) 140 = some (.ifCond .eq 60, 3, []) := by decide +kernel
theorem i114_143 : lk (mi_ins m114) 143 = some (.aload_n 0, 1, []) := by decide +kernel
theorem i114_144 : lk (mi_ins m114) 144 = some (.getfield 31, 3, []) := by decide +kernel
theorem i114_147 : lk (mi_ins m114) 147 = some (.iload_n 2, 1, []) := by decide +kernel
theorem i114_148 : lk (mi_ins m114) 148 = some (.iload 4, 2, []) := by decide +kernel
theorem i114_150 : lk (mi_ins m114) 150 = some (.iastore, 1, []) := by decide +kernel
theorem i114_151 : lk (mi_ins m114) 151 = some (.aload_n 0, 1, []) := by decide +kernel
theorem i114_152 : lk (mi_ins m114) 152 = some (.getfield 34, 3, []) := by decide +kernel
theorem i114_155 : lk (mi_ins m114) 155 = some (.iload_n 2, 1, []) := by decide +kernel
theorem i114_156 : lk (mi_ins m114) 156 = some (.iload 6, 2, []) := by decide +kernel
theorem i114_158 : lk (mi_ins m114) 158 = some (.iastore, 1, []) := by decide +kernel
theorem i114_159 : lk (mi_ins m114) 159 = some (.aload_n 0, 1, []) := by decide +kernel
theorem i114_160 : lk (mi_ins m114) 160 = some (.iload 6, 2, []) := by decide +kernel
theorem i114_162 : lk (mi_ins m114) 162 = some (.aload_n 1, 1, []) := by decide +kernel
theorem i114_163 : lk (mi_ins m114) 163 = some (.getfield 130, 3, []) := by decide +kernel
theorem i114_166 : lk (mi_ins m114) 166 = some (.iload_n 2, 1, []) := by decide +kernel
theorem i114_167 : lk (mi_ins m114) 167 = some (.iaload, 1, []) := by decide +kernel
theorem i114_168 : lk (mi_ins m114) 168 = some (.iload 5, 2, []) := by decide +kernel
theorem i114_170 : lk (mi_ins m114) 170 = some (.invokevirtual 133, 3, []) := by decide +kernel
theorem i114_173 : lk (mi_ins m114) 173 = some (.aload_n 0, 1, []) := by decide +kernel
theorem i114_174 : lk (mi_ins m114) 174 = some (.aload_n 1, 1, []) := by decide +kernel
theorem i114_175 : lk (mi_ins m114) 175 = some (.iload_n 2, 1, []) := by decide +kernel
theorem i114_176 : lk (mi_ins m114) 176 = some (.iconst 1, 1, []) := by decide +kernel
theorem i114_177 : lk (mi_ins m114) 177 = some (.iadd, 1, []) := by decide +kernel
theorem i114_178 : lk (mi_ins m114) 178 = some (.iload_n 3, 1, []) := by decide +kernel
theorem i114_179 : lk (mi_ins m114) 179 = some (.iload 5, 2, []) := by decide +kernel
theorem i114_181 : lk (mi_ins m114) 181 = some (.iadd, 1, []) := by decide +kernel
theorem i114_182 : lk (mi_ins m114) 182 = some (.invokevirtual 69, 3, []) := by decide +kernel
theorem i114_185 : lk (mi_ins m114) 185 = some (.aload_n 0, 1, []) := by decide +kernel
theorem i114_186 : lk (mi_ins m114) 186 = some (.iload 6, 2, []) := by decide +kernel
theorem i114_188 : lk (mi_ins m114) 188 = some (.aload_n 1, 1, []) := by decide +kernel
theorem i114_189 : lk (mi_ins m114) 189 = some (.getfield 130, 3, []) := by decide +kernel
theorem i114_192 : lk (mi_ins m114) 192 = some (.iload_n 2, 1, []) := by decide +kernel
theorem i114_193 : lk (mi_ins m114) 193 = some (.iaload, 1, []) := by decide +kernel
theorem i114_194 : lk (mi_ins m114) 194 = some (.iload 5, 2, []) := by decide +kernel
theorem i114_196 : lk (mi_ins m114) 196 = some (.ineg, 1, []) := by decide +kernel
theorem i114_197 : lk (mi_ins m114) 197 = some (.invokevirtual 133, 3, []) := by decide +kernel
theorem i114_200 : lk (mi_ins m114) 200 = some (.iinc 6 1, 3, []) := by decide +kernel
theorem i114_203 : lk (mi_ins m114) 203 = some (.goto (-78), 3, []) := by decide +kernel
theorem i114_206 : lk (mi_ins m114) 206 = some (.iinc 4 1, 3, [5, 6]) := by decide +kernel
theorem i114_209 : lk (mi_ins m114) 209 = some (.goto (-107), 3, []) := by decide +kernel
theorem i114_212 : lk (mi_ins m114) 212 = some (.return_, 1, [0, 1, 2, 3, 4, 5, 6]) := by decide +kernel
theorem i115_0 : lk (mi_ins m115) 0 = some (.iconst 0, 1, []) := by decide +kernel
theorem i115_1 : lk (mi_ins m115) 1 = some (.istore_n 2, 1, []) := by decide +kernel
theorem i115_2 : lk (mi_ins m115) 2 = some (.iconst 0, 1, []) := by decide +kernel
theorem i115_3 : lk (mi_ins m115) 3 = some (.istore_n 3, 1, []) := by decide +kernel
theorem i115_4 : lk (mi_ins m115) 4 = some (.iload_n 3, 1, []) := by decide +kernel
theorem i115_5 : lk (mi_ins m115) 5 = some (.iload_n 1, 1, []) := by decide +kernel
theorem i115_6 : lk (mi_ins m115) 6 = some (.if_icmp .ge 20, 3, []) := by decide +kernel
theorem i115_9 : lk (mi_ins m115) 9 = some (.aload_n 0, 1, []) := by decide +kernel
theorem i115_10 : lk (mi_ins m115) 10 = some (.iload_n 3, 1, []) := by decide +kernel
theorem i115_11 : lk (mi_ins m115) 11 = some (.invokevirtual 126, 3, []) := by decide +kernel
theorem i115_14 : lk (mi_ins m115) 14 = some (.ifCond .eq 6, 3, []) := by decide +kernel
theorem i115_17 : lk (mi_ins m115) 17 = some (.iinc 2 1, 3, []) := by decide +kernel
theorem i115_20 : lk (mi_ins m115) 20 = some (.iinc 3 1, 3, []) := by decide +kernel
theorem i115_23 : lk (mi_ins m115) 23 = some (.goto (-19), 3, []) := by decide +kernel
theorem i115_26 : lk (mi_ins m115) 26 = some (.iload_n 2, 1, [0, 1, 3]) := by decide +kernel
theorem i115_27 : lk (mi_ins m115) 27 = some (.ireturn, 1, []) := by decide +kernel
theorem i116_0 : lk (mi_ins m116) 0 = some (.iconst 0, 1, []) := by decide +kernel
theorem i116_1 : lk (mi_ins m116) 1 = some (.istore_n 2, 1, []) := by decide +kernel
theorem i116_2 : lk (mi_ins m116) 2 = some (.iload_n 2, 1, []) := by decide +kernel
theorem i116_3 : lk (mi_ins m116) 3 = some (.iconst 4, 1, []) := by decide +kernel
theorem i116_4 : lk (mi_ins m116) 4 = some (.if_icmp .ge 24, 3, []) := by decide +kernel
theorem i116_7 : lk (mi_ins m116) 7 = some (.aload_n 0, 1, []) := by decide +kernel
theorem i116_8 : lk (mi_ins m116) 8 = some (.getfield 27, 3, []) := by decide +kernel
theorem i116_11 : lk (mi_ins m116) 11 = some (.iload_n 1, 1, []) := by decide +kernel
theorem i116_12 : lk (mi_ins m116) 12 = some (.iconst 4, 1, []) := by decide +kernel
theorem i116_13 : lk (mi_ins m116) 13 = some (.imul, 1, []) := by decide +kernel
theorem i116_14 : lk (mi_ins m116) 14 = some (.iload_n 2, 1, []) := by decide +kernel
theorem i116_15 : lk (mi_ins m116) 15 = some (.iadd, 1, []) := by decide +kernel
theorem i116_16 : lk (mi_ins m116) 16 = some (.iaload, 1, []) := by decide +kernel
theorem i116_17 : lk (mi_ins m116) 17 = some (.ifCond .le 5, 3, []) := by decide +kernel
theorem i116_20 : lk (mi_ins m116) 20 = some (.iconst 1, 1, []) := by decide +kernel
theorem i116_21 : lk (mi_ins m116) 21 = some (.ireturn, 1, []) := by decide +kernel
theorem i116_22 : lk (mi_ins m116) 22 = some (.iinc 2 1, 3, []) := by decide +kernel
theorem i116_25 : lk (mi_ins m116) 25 = some (.goto (-23), 3, []) := by decide +kernel
theorem i116_28 : lk (mi_ins m116) 28 = some (.iconst 0, 1, [0, 1, 2]) := by decide +kernel
theorem i116_29 : lk (mi_ins m116) 29 = some (.ireturn, 1, []) := by decide +kernel
theorem i117_0 : lk (mi_ins m117) 0 = some (.iconst 0, 1, []) := by decide +kernel
theorem i117_1 : lk (mi_ins m117) 1 = some (.istore 4, 2, []) := by decide +kernel
theorem i117_3 : lk (mi_ins m117) 3 = some (.iload 4, 2, []) := by decide +kernel
theorem i117_5 : lk (mi_ins m117) 5 = some (.iconst 4, 1, []) := by decide +kernel
theorem i117_6 : lk (mi_ins m117) 6 = some (.if_icmp .ge 31, 3, []) := by decide +kernel
theorem i117_9 : lk (mi_ins m117) 9 = some (.aload_n 0, 1, []) := by decide +kernel
theorem i117_10 : lk (mi_ins m117) 10 = some (.getfield 27, 3, []) := by decide +kernel
theorem i117_13 : lk (mi_ins m117) 13 = some (.iload_n 1, 1, []) := by decide +kernel
theorem i117_14 : lk (mi_ins m117) 14 = some (.iconst 4, 1, []) := by decide +kernel
theorem i117_15 : lk (mi_ins m117) 15 = some (.imul, 1, []) := by decide +kernel
theorem i117_16 : lk (mi_ins m117) 16 = some (.iload 4, 2, []) := by decide +kernel
theorem i117_18 : lk (mi_ins m117) 18 = some (.iadd, 1, []) := by decide +kernel
theorem i117_19 : lk (mi_ins m117) 19 = some (.dup2, 1, []) := by decide +kernel
theorem i117_20 : lk (mi_ins m117) 20 = some (.iaload, 1, []) := by decide +kernel
theorem i117_21 : lk (mi_ins m117) 21 = some (.iload_n 3, 1, []) := by decide +kernel
theorem i117_22 : lk (mi_ins m117) 22 = some (.iload_n 2, 1, []) := by decide +kernel
theorem i117_23 : lk (mi_ins m117) 23 = some (.iload 4, 2, []) := by decide +kernel
theorem i117_25 : lk (mi_ins m117) 25 = some (.invokestatic 136, 3, []) := by decide +kernel
theorem i117_28 : lk (mi_ins m117) 28 = some (.imul, 1, []) := by decide +kernel
theorem i117_29 : lk (mi_ins m117) 29 = some (.isub, 1, []) := by decide +kernel
theorem i117_30 : lk (mi_ins m117) 30 = some (.iastore, 1, []) := by decide +kernel
theorem i117_31 : lk (mi_ins m117) 31 = some (.iinc 4 1, 3, []) := by decide +kernel
theorem i117_34 : lk (mi_ins m117) 34 = some (.goto (-31), 3, []) := by decide +kernel
theorem i117_37 : lk (mi_ins m117) 37 = some (.return_, 1, [0, 1, 2, 3, 4]) := by decide +kernel
theorem i118_0 : lk (mi_ins m118) 0 = some (.iload_n 0, 1, []) := by decide +kernel
theorem i118_1 : lk (mi_ins m118) 1 = some (.ifCond .ne 17, 3, []) := by decide +kernel
theorem i118_4 : lk (mi_ins m118) 4 = some (.iconst 0, 1, []) := by decide +kernel
theorem i118_5 : lk (mi_ins m118) 5 = some (.getstatic 18, 3, []) := by decide +kernel
theorem i118_8 : lk (mi_ins m118) 8 = some (.iconst 0, 1, []) := by decide +kernel
theorem i118_9 : lk (mi_ins m118) 9 = some (.iaload, 1, []) := by decide +kernel
theorem i118_10 : lk (mi_ins m118) 10 = some (.iload_n 1, 1, []) := by decide +kernel
theorem i118_11 : lk (mi_ins m118) 11 = some (.isub, 1, []) := by decide +kernel
theorem i118_12 : lk (mi_ins m118) 12 = some (.invokestatic 21, 3, []) := by decide +kernel
theorem i118_15 : lk (mi_ins m118) 15 = some (.goto 7, 3, []) := by decide +kernel
theorem i118_18 : lk (mi_ins m118) 18 = some (.iload_n 0, 1, []) := by decide +kernel
theorem i118_19 : lk (mi_ins m118) 19 = some (.invokestatic 27, 3, []) := by decide +kernel
theorem i118_22 : lk (mi_ins m118) 22 = some (.ireturn, 1, [0, 1]) := by decide +kernel
theorem i119_0 : lk (mi_ins m119) 0 = some (.aload_n 0, 1, []) := by decide +kernel
theorem i119_1 : lk (mi_ins m119) 1 = some (.aload_n 0, 1, []) := by decide +kernel
theorem i119_2 : lk (mi_ins m119) 2 = some (.iload_n 1, 1, []) := by decide +kernel
theorem i119_3 : lk (mi_ins m119) 3 = some (.invokevirtual 256, 3, []) := by decide +kernel
theorem i119_6 : lk (mi_ins m119) 6 = some (.iload_n 2, 1, []) := by decide +kernel
theorem i119_7 : lk (mi_ins m119) 7 = some (.iconst 1, 1, []) := by decide +kernel
theorem i119_8 : lk (mi_ins m119) 8 = some (.iconst 4, 1, []) := by decide +kernel
theorem i119_9 : lk (mi_ins m119) 9 = some (.invokestatic 87, 3, []) := by decide +kernel
theorem i119_12 : lk (mi_ins m119) 12 = some (.invokevirtual 91, 3, []) := by decide +kernel
theorem i119_15 : lk (mi_ins m119) 15 = some (.ifCond .eq 5, 3, []) := by decide +kernel
theorem i119_18 : lk (mi_ins m119) 18 = some (.iconst (-1), 1, []) := by decide +kernel
theorem i119_19 : lk (mi_ins m119) 19 = some (.ireturn, 1, []) := by decide +kernel
theorem i119_20 : lk (mi_ins m119) 20 = some (.aload_n 0, 1, []) := by decide +kernel
theorem i119_21 : lk (mi_ins m119) 21 = some (.getfield 54, 3, []) := by decide +kernel
theorem i119_24 : lk (mi_ins m119) 24 = some (.aload_n 0, 1, []) := by decide +kernel
theorem i119_25 : lk (mi_ins m119) 25 = some (.getfield 23, 3, []) := by decide +kernel
theorem i119_28 : lk (mi_ins m119) 28 = some (.aload_n 0, 1, []) := by decide +kernel
theorem i119_29 : lk (mi_ins m119) 29 = some (.getfield 30, 3, []) := by decide +kernel
theorem i119_32 : lk (mi_ins m119) 32 = some (.iload_n 2, 1, []) := by decide +kernel
theorem i119_33 : lk (mi_ins m119) 33 = some (.iconst 0, 1, []) := by decide +kernel
theorem i119_34 : lk (mi_ins m119) 34 = some (.invokevirtual 249, 3, []) := by decide +kernel
theorem i119_37 : lk (mi_ins m119) 37 = some (.aload_n 0, 1, []) := by decide +kernel
theorem i119_38 : lk (mi_ins m119) 38 = some (.getfield 54, 3, []) := by decide +kernel
theorem i119_41 : lk (mi_ins m119) 41 = some (.iload_n 1, 1, []) := by decide +kernel
theorem i119_42 : lk (mi_ins m119) 42 = some (.invokevirtual 259, 3, []) := by decide +kernel
theorem i119_45 : lk (mi_ins m119) 45 = some (.ireturn, 1, []) := by decide +kernel
theorem i120_0 : lk (mi_ins m120) 0 = some (.iload_n 1, 1, []) := by decide +kernel
theorem i120_1 : lk (mi_ins m120) 1 = some (.iconst 0, 1, []) := by decide +kernel
theorem i120_2 : lk (mi_ins m120) 2 = some (.aload_n 0, 1, []) := by decide +kernel
theorem i120_3 : lk (mi_ins m120) 3 = some (.getfield 23, 3, []) := by decide +kernel
theorem i120_6 : lk (mi_ins m120) 6 = some (.getfield 280, 3, []) := by decide +kernel
theorem i120_9 : lk (mi_ins m120) 9 = some (.iconst 1, 1, []) := by decide +kernel
theorem i120_10 : lk (mi_ins m120) 10 = some (.isub, 1, []) := by decide +kernel
theorem i120_11 : lk (mi_ins m120) 11 = some (.invokestatic 87, 3, []) := by decide +kernel
theorem i120_14 : lk (mi_ins m120) 14 = some (.ireturn, 1, []) := by decide +kernel
theorem i121_0 : lk (mi_ins m121) 0 = some (.aload_n 0, 1, []) := by decide +kernel
theorem i121_1 : lk (mi_ins m121) 1 = some (.getfield 43, 3, []) := by decide +kernel
theorem i121_4 : lk (mi_ins m121) 4 = some (.ifCond .ge 8, 3, []) := by decide +kernel
theorem i121_7 : lk (mi_ins m121) 7 = some (.bipush (-2), 2, []) := by decide +kernel
theorem i121_9 : lk (mi_ins m121) 9 = some (.goto 9, 3, []) := by decide +kernel
theorem i121_12 : lk (mi_ins m121) 12 = some (.aload_n 0, 1, []) := by decide +kernel
theorem i121_13 : lk (mi_ins m121) 13 = some (.getfield 37, 3, []) := by decide +kernel
theorem i121_16 : lk (mi_ins m121) 16 = some (.iload_n 1, 1, []) := by decide +kernel
theorem i121_17 : lk (mi_ins m121) 17 = some (.iaload, 1, []) := by decide +kernel
theorem i121_18 : lk (mi_ins m121) 18 = some (.ireturn, 1, [0, 1]) := by decide +kernel
theorem i122_0 : lk (mi_ins m122) 0 = some (.aload_n 0, 1, []) := by decide +kernel
theorem i122_1 : lk (mi_ins m122) 1 = some (.aload_n 0, 1, []) := by decide +kernel
theorem i122_2 : lk (mi_ins m122) 2 = some (.iload_n 1, 1, []) := by decide +kernel
theorem i122_3 : lk (mi_ins m122) 3 = some (.invokevirtual 256, 3, []) := by decide +kernel
theorem i122_6 : lk (mi_ins m122) 6 = some (.iload_n 2, 1, []) := by decide +kernel
theorem i122_7 : lk (mi_ins m122) 7 = some (.iconst 1, 1, []) := by decide +kernel
theorem i122_8 : lk (mi_ins m122) 8 = some (.iconst 4, 1, []) := by decide +kernel
theorem i122_9 : lk (mi_ins m122) 9 = some (.invokestatic 87, 3, []) := by decide +kernel
theorem i122_12 : lk (mi_ins m122) 12 = some (.invokevirtual 91, 3, []) := by decide +kernel
theorem i122_15 : lk (mi_ins m122) 15 = some (.ifCond .eq 5, 3, []) := by decide +kernel
theorem i122_18 : lk (mi_ins m122) 18 = some (.iconst (-1), 1, []) := by decide +kernel
theorem i122_19 : lk (mi_ins m122) 19 = some (.ireturn, 1, []) := by decide +kernel
theorem i122_20 : lk (mi_ins m122) 20 = some (.aload_n 0, 1, []) := by decide +kernel
theorem i122_21 : lk (mi_ins m122) 21 = some (.getfield 54, 3, []) := by decide +kernel
theorem i122_24 : lk (mi_ins m122) 24 = some (.aload_n 0, 1, []) := by decide +kernel
theorem i122_25 : lk (mi_ins m122) 25 = some (.getfield 23, 3, []) := by decide +kernel
theorem i122_28 : lk (mi_ins m122) 28 = some (.aload_n 0, 1, []) := by decide +kernel
theorem i122_29 : lk (mi_ins m122) 29 = some (.getfield 30, 3, []) := by decide +kernel
theorem i122_32 : lk (mi_ins m122) 32 = some (.iload_n 2, 1, []) := by decide +kernel
theorem i122_33 : lk (mi_ins m122) 33 = some (.iconst 0, 1, []) := by decide +kernel
theorem i122_34 : lk (mi_ins m122) 34 = some (.invokevirtual 249, 3, []) := by decide +kernel
theorem i122_37 : lk (mi_ins m122) 37 = some (.aload_n 0, 1, []) := by decide +kernel
theorem i122_38 : lk (mi_ins m122) 38 = some (.getfield 54, 3, []) := by decide +kernel
theorem i122_41 : lk (mi_ins m122) 41 = some (.iload_n 1, 1, []) := by decide +kernel
theorem i122_42 : lk (mi_ins m122) 42 = some (.invokevirtual 262, 3, []) := by decide +kernel
theorem i122_45 : lk (mi_ins m122) 45 = some (.ireturn, 1, []) := by decide +kernel
theorem i123_0 : lk (mi_ins m123) 0 = some (.aload_n 0, 1, []) := by decide +kernel
theorem i123_1 : lk (mi_ins m123) 1 = some (.getfield 43, 3, []) := by decide +kernel
theorem i123_4 : lk (mi_ins m123) 4 = some (.ifCond .lt 12, 3, []) := by decide +kernel
theorem i123_7 : lk (mi_ins m123) 7 = some (.aload_n 0, 1, []) := by decide +kernel
theorem i123_8 : lk (mi_ins m123) 8 = some (.getfield 37, 3, []) := by decide +kernel
theorem i123_11 : lk (mi_ins m123) 11 = some (.iload_n 1, 1, []) := by decide +kernel
theorem i123_12 : lk (mi_ins m123) 12 = some (.iaload, 1, []) := by decide +kernel
theorem i123_13 : lk (mi_ins m123) 13 = some (.ifCond .ne 8, 3, []) := by decide +kernel
theorem i123_16 : lk (mi_ins m123) 16 = some (.bipush (-2), 2, [0, 1]) := by decide +kernel
theorem i123_18 : lk (mi_ins m123) 18 = some (.goto 9, 3, []) := by decide +kernel
theorem i123_21 : lk (mi_ins m123) 21 = some (.aload_n 0, 1, []) := by decide +kernel
theorem i123_22 : lk (mi_ins m123) 22 = some (.getfield 40, 3, []) := by decide +kernel
theorem i123_25 : lk (mi_ins m123) 25 = some (.iload_n 1, 1, []) := by decide +kernel
theorem i123_26 : lk (mi_ins m123) 26 = some (.iaload, 1, []) := by decide +kernel
theorem i123_27 : lk (mi_ins m123) 27 = some (.ireturn, 1, [0, 1]) := by decide +kernel
theorem i124_0 : lk (mi_ins m124) 0 = some (.aload_n 0, 1, []) := by decide +kernel
theorem i124_1 : lk (mi_ins m124) 1 = some (.aload_n 0, 1, []) := by decide +kernel
theorem i124_2 : lk (mi_ins m124) 2 = some (.invokevirtual 182, 3, []) := by decide +kernel
theorem i124_5 : lk (mi_ins m124) 5 = some (.iload_n 1, 1, []) := by decide +kernel
theorem i124_6 : lk (mi_ins m124) 6 = some (.iconst 1, 1, []) := by decide +kernel
theorem i124_7 : lk (mi_ins m124) 7 = some (.iconst 4, 1, []) := by decide +kernel
theorem i124_8 : lk (mi_ins m124) 8 = some (.invokestatic 87, 3, []) := by decide +kernel
theorem i124_11 : lk (mi_ins m124) 11 = some (.invokevirtual 91, 3, []) := by decide +kernel
theorem i124_14 : lk (mi_ins m124) 14 = some (.ifCond .eq 5, 3, []) := by decide +kernel
theorem i124_17 : lk (mi_ins m124) 17 = some (.iconst (-1), 1, []) := by decide +kernel
theorem i124_18 : lk (mi_ins m124) 18 = some (.ireturn, 1, []) := by decide +kernel
theorem i124_19 : lk (mi_ins m124) 19 = some (.aload_n 0, 1, []) := by decide +kernel
theorem i124_20 : lk (mi_ins m124) 20 = some (.getfield 54, 3, []) := by decide +kernel
theorem i124_23 : lk (mi_ins m124) 23 = some (.aload_n 0, 1, []) := by decide +kernel
theorem i124_24 : lk (mi_ins m124) 24 = some (.getfield 23, 3, []) := by decide +kernel
theorem i124_27 : lk (mi_ins m124) 27 = some (.aload_n 0, 1, []) := by decide +kernel
theorem i124_28 : lk (mi_ins m124) 28 = some (.getfield 30, 3, []) := by decide +kernel
theorem i124_31 : lk (mi_ins m124) 31 = some (.iload_n 1, 1, []) := by decide +kernel
theorem i124_32 : lk (mi_ins m124) 32 = some (.iconst 1, 1, []) := by decide +kernel
theorem i124_33 : lk (mi_ins m124) 33 = some (.invokevirtual 249, 3, []) := by decide +kernel
theorem i124_36 : lk (mi_ins m124) 36 = some (.aload_n 0, 1, []) := by decide +kernel
theorem i124_37 : lk (mi_ins m124) 37 = some (.getfield 54, 3, []) := by decide +kernel
theorem i124_40 : lk (mi_ins m124) 40 = some (.getfield 253, 3, []) := by decide +kernel
theorem i124_43 : lk (mi_ins m124) 43 = some (.ireturn, 1, []) := by decide +kernel
theorem i125_0 : lk (mi_ins m125) 0 = some (.aload_n 0, 1, []) := by decide +kernel
theorem i125_1 : lk (mi_ins m125) 1 = some (.aload_n 0, 1, []) := by decide +kernel
theorem i125_2 : lk (mi_ins m125) 2 = some (.iload_n 1, 1, []) := by decide +kernel
theorem i125_3 : lk (mi_ins m125) 3 = some (.invokevirtual 256, 3, []) := by decide +kernel
theorem i125_6 : lk (mi_ins m125) 6 = some (.iload_n 2, 1, []) := by decide +kernel
theorem i125_7 : lk (mi_ins m125) 7 = some (.iconst 1, 1, []) := by decide +kernel
theorem i125_8 : lk (mi_ins m125) 8 = some (.iconst 4, 1, []) := by decide +kernel
theorem i125_9 : lk (mi_ins m125) 9 = some (.invokestatic 87, 3, []) := by decide +kernel
theorem i125_12 : lk (mi_ins m125) 12 = some (.invokevirtual 91, 3, []) := by decide +kernel
theorem i125_15 : lk (mi_ins m125) 15 = some (.ifCond .eq 5, 3, []) := by decide +kernel
theorem i125_18 : lk (mi_ins m125) 18 = some (.iconst (-1), 1, []) := by decide +kernel
theorem i125_19 : lk (mi_ins m125) 19 = some (.ireturn, 1, []) := by decide +kernel
theorem i125_20 : lk (mi_ins m125) 20 = some (.aload_n 0, 1, []) := by decide +kernel
theorem i125_21 : lk (mi_ins m125) 21 = some (.getfield 54, 3, []) := by decide +kernel
theorem i125_24 : lk (mi_ins m125) 24 = some (.aload_n 0, 1, []) := by decide +kernel
theorem i125_25 : lk (mi_ins m125) 25 = some (.getfield 23, 3, []) := by decide +kernel
theorem i125_28 : lk (mi_ins m125) 28 = some (.aload_n 0, 1, []) := by decide +kernel
theorem i125_29 : lk (mi_ins m125) 29 = some (.getfield 30, 3, []) := by decide +kernel
theorem i125_32 : lk (mi_ins m125) 32 = some (.iload_n 2, 1, []) := by decide +kernel
theorem i125_33 : lk (mi_ins m125) 33 = some (.iconst 1, 1, []) := by decide +kernel
theorem i125_34 : lk (mi_ins m125) 34 = some (.invokevirtual 249, 3, []) := by decide +kernel
theorem i125_37 : lk (mi_ins m125) 37 = some (.aload_n 0, 1, []) := by decide +kernel
theorem i125_38 : lk (mi_ins m125) 38 = some (.getfield 54, 3, []) := by decide +kernel
theorem i125_41 : lk (mi_ins m125) 41 = some (.iload_n 1, 1, []) := by decide +kernel
theorem i125_42 : lk (mi_ins m125) 42 = some (.invokevirtual 262, 3, []) := by decide +kernel
theorem i125_45 : lk (mi_ins m125) 45 = some (.ireturn, 1, []) := by decide +kernel
theorem i126_0 : lk (mi_ins m126) 0 = some (.aload_n 0, 1, []) := by decide +kernel
theorem i126_1 : lk (mi_ins m126) 1 = some (.aload_n 0, 1, []) := by decide +kernel
theorem i126_2 : lk (mi_ins m126) 2 = some (.invokevirtual 182, 3, []) := by decide +kernel
theorem i126_5 : lk (mi_ins m126) 5 = some (.iconst 0, 1, []) := by decide +kernel
theorem i126_6 : lk (mi_ins m126) 6 = some (.invokevirtual 91, 3, []) := by decide +kernel
theorem i126_9 : lk (mi_ins m126) 9 = some (.ifCond .eq 5, 3, []) := by decide +kernel
theorem i126_12 : lk (mi_ins m126) 12 = some (.iconst (-1), 1, []) := by decide +kernel
theorem i126_13 : lk (mi_ins m126) 13 = some (.ireturn, 1, []) := by decide +kernel
theorem i126_14 : lk (mi_ins m126) 14 = some (.aload_n 0, 1, []) := by decide +kernel
theorem i126_15 : lk (mi_ins m126) 15 = some (.getfield 61, 3, []) := by decide +kernel
theorem i126_18 : lk (mi_ins m126) 18 = some (.aload_n 0, 1, []) := by decide +kernel
theorem i126_19 : lk (mi_ins m126) 19 = some (.getfield 23, 3, []) := by decide +kernel
theorem i126_22 : lk (mi_ins m126) 22 = some (.invokevirtual 265, 3, []) := by decide +kernel
theorem i126_25 : lk (mi_ins m126) 25 = some (.aload_n 0, 1, []) := by decide +kernel
theorem i126_26 : lk (mi_ins m126) 26 = some (.getfield 61, 3, []) := by decide +kernel
theorem i126_29 : lk (mi_ins m126) 29 = some (.getfield 268, 3, []) := by decide +kernel
theorem i126_32 : lk (mi_ins m126) 32 = some (.ireturn, 1, []) := by decide +kernel
theorem i127_0 : lk (mi_ins m127) 0 = some (.aload_n 0, 1, []) := by decide +kernel
theorem i127_1 : lk (mi_ins m127) 1 = some (.iconst 0, 1, []) := by decide +kernel
theorem i127_2 : lk (mi_ins m127) 2 = some (.putfield 31, 3, []) := by decide +kernel
theorem i127_5 : lk (mi_ins m127) 5 = some (.iconst 0, 1, []) := by decide +kernel
theorem i127_6 : lk (mi_ins m127) 6 = some (.istore_n 2, 1, []) := by decide +kernel
theorem i127_7 : lk (mi_ins m127) 7 = some (.iload_n 2, 1, []) := by decide +kernel
theorem i127_8 : lk (mi_ins m127) 8 = some (.iconst 1, 1, []) := by decide +kernel
theorem i127_9 : lk (mi_ins m127) 9 = some (.aload_n 1, 1, []) := by decide +kernel
theorem i127_10 : lk (mi_ins m127) 10 = some (.getfield 35, 3, []) := by decide +kernel
theorem i127_13 : lk (mi_ins m127) 13 = some (.ishl, 1, []) := by decide +kernel
theorem i127_14 : lk (mi_ins m127) 14 = some (.if_icmp .ge 52, 3, []) := by decide +kernel
theorem i127_17 : lk (mi_ins m127) 17 = some (.aload_n 0, 1, []) := by decide +kernel
theorem i127_18 : lk (mi_ins m127) 18 = some (.getfield 31, 3, []) := by decide +kernel
theorem i127_21 : lk (mi_ins m127) 21 = some (.aload_n 0, 1, []) := by decide +kernel
theorem i127_22 : lk (mi_ins m127) 22 = some (.getfield 11, 3, []) := by decide +kernel
theorem i127_25 : lk (mi_ins m127) 25 = some (.arraylength, 1, []) := by decide +kernel
theorem i127_26 : lk (mi_ins m127) 26 = some (.if_icmp .ge 40, 3, []) := by decide +kernel
theorem i127_29 : lk (mi_ins m127) 29 = some (.aload_n 0, 1, []) := by decide +kernel
theorem i127_30 : lk (mi_ins m127) 30 = some (.aload_n 1, 1, []) := by decide +kernel
theorem i127_31 : lk (mi_ins m127) 31 = some (.iload_n 2, 1, []) := by decide +kernel
theorem i127_32 : lk (mi_ins m127) 32 = some (.invokevirtual 38, 3, []) := by decide +kernel
theorem i127_35 : lk (mi_ins m127) 35 = some (.bipush (-2), 2, []) := by decide +kernel
theorem i127_37 : lk (mi_ins m127) 37 = some (.if_icmp .ne 23, 3, []) := by decide +kernel
theorem i127_40 : lk (mi_ins m127) 40 = some (.aload_n 0, 1, []) := by decide +kernel
theorem i127_41 : lk (mi_ins m127) 41 = some (.getfield 11, 3, []) := by decide +kernel
theorem i127_44 : lk (mi_ins m127) 44 = some (.aload_n 0, 1, []) := by decide +kernel
theorem i127_45 : lk (mi_ins m127) 45 = some (.getfield 31, 3, []) := by decide +kernel
theorem i127_48 : lk (mi_ins m127) 48 = some (.iload_n 2, 1, []) := by decide +kernel
theorem i127_49 : lk (mi_ins m127) 49 = some (.iastore, 1, []) := by decide +kernel
theorem i127_50 : lk (mi_ins m127) 50 = some (.aload_n 0, 1, []) := by decide +kernel
theorem i127_51 : lk (mi_ins m127) 51 = some (.dup, 1, []) := by decide +kernel
theorem i127_52 : lk (mi_ins m127) 52 = some (.getfield 31, 3, []) := by decide +kernel
theorem i127_55 : lk (mi_ins m127) 55 = some (.iconst 1, 1, []) := by decide +kernel
theorem i127_56 : lk (mi_ins m127) 56 = some (.iadd, 1, []) := by decide +kernel
theorem i127_57 : lk (mi_ins m127) 57 = some (.putfield 31, 3, []) := by decide +kernel
theorem i127_60 : lk (mi_ins m127) 60 = some (.iinc 2 1, 3, []) := by decide +kernel
theorem i127_63 : lk (mi_ins m127) 63 = some (.goto (-56), 3, []) := by decide +kernel
theorem i127_66 : lk (mi_ins m127) 66 = some (.return_, 1, [0, 1, 2]) := by decide +kernel
theorem i128_0 : lk (mi_ins m128) 0 = some (.aload_n 1, 1, []) := by decide +kernel
theorem i128_1 : lk (mi_ins m128) 1 = some (.aload_n 0, 1, []) := by decide +kernel
theorem i128_2 : lk (mi_ins m128) 2 = some (.getfield 27, 3, []) := by decide +kernel
theorem i128_5 : lk (mi_ins m128) 5 = some (.iload_n 2, 1, []) := by decide +kernel
theorem i128_6 : lk (mi_ins m128) 6 = some (.invokevirtual 42, 3, []) := by decide +kernel
theorem i128_9 : lk (mi_ins m128) 9 = some (.aload_n 0, 1, []) := by decide +kernel
theorem i128_10 : lk (mi_ins m128) 10 = some (.getfield 20, 3, []) := by decide +kernel
theorem i128_13 : lk (mi_ins m128) 13 = some (.aload_n 1, 1, []) := by decide +kernel
theorem i128_14 : lk (mi_ins m128) 14 = some (.aload_n 0, 1, []) := by decide +kernel
theorem i128_15 : lk (mi_ins m128) 15 = some (.getfield 27, 3, []) := by decide +kernel
theorem i128_18 : lk (mi_ins m128) 18 = some (.invokevirtual 46, 3, []) := by decide +kernel
theorem i128_21 : lk (mi_ins m128) 21 = some (.aload_n 1, 1, []) := by decide +kernel
theorem i128_22 : lk (mi_ins m128) 22 = some (.getfield 50, 3, []) := by decide +kernel
theorem i128_25 : lk (mi_ins m128) 25 = some (.astore_n 3, 1, []) := by decide +kernel
theorem i128_26 : lk (mi_ins m128) 26 = some (.iconst 0, 1, []) := by decide +kernel
theorem i128_27 : lk (mi_ins m128) 27 = some (.istore 4, 2, []) := by decide +kernel
theorem i128_29 : lk (mi_ins m128) 29 = some (.iload 4, 2, [1, 2]) := by decide +kernel
theorem i128_31 : lk (mi_ins m128) 31 = some (.aload_n 3, 1, []) := by decide +kernel
theorem i128_32 : lk (mi_ins m128) 32 = some (.getfield 54, 3, []) := by decide +kernel
theorem i128_35 : lk (mi_ins m128) 35 = some (.if_icmp .ge 37, 3, []) := by decide +kernel
theorem i128_38 : lk (mi_ins m128) 38 = some (.aload_n 0, 1, []) := by decide +kernel
theorem i128_39 : lk (mi_ins m128) 39 = some (.getfield 20, 3, []) := by decide +kernel
theorem i128_42 : lk (mi_ins m128) 42 = some (.getfield 59, 3, []) := by decide +kernel
theorem i128_45 : lk (mi_ins m128) 45 = some (.aload_n 3, 1, []) := by decide +kernel
theorem i128_46 : lk (mi_ins m128) 46 = some (.getfield 62, 3, []) := by decide +kernel
theorem i128_49 : lk (mi_ins m128) 49 = some (.iload 4, 2, []) := by decide +kernel
theorem i128_51 : lk (mi_ins m128) 51 = some (.iaload, 1, []) := by decide +kernel
theorem i128_52 : lk (mi_ins m128) 52 = some (.iaload, 1, []) := by decide +kernel
theorem i128_53 : lk (mi_ins m128) 53 = some (.aload_n 3, 1, []) := by decide +kernel
theorem i128_54 : lk (mi_ins m128) 54 = some (.getfield 65, 3, []) := by decide +kernel
theorem i128_57 : lk (mi_ins m128) 57 = some (.iload 4, 2, []) := by decide +kernel
theorem i128_59 : lk (mi_ins m128) 59 = some (.iaload, 1, []) := by decide +kernel
theorem i128_60 : lk (mi_ins m128) 60 = some (.if_icmp .eq 6, 3, []) := by decide +kernel
theorem i128_63 : lk (mi_ins m128) 63 = some (.iload 4, 2, []) := by decide +kernel
theorem i128_65 : lk (mi_ins m128) 65 = some (.ireturn, 1, []) := by decide +kernel
theorem i128_66 : lk (mi_ins m128) 66 = some (.iinc 4 1, 3, []) := by decide +kernel
theorem i128_69 : lk (mi_ins m128) 69 = some (.goto (-40), 3, []) := by decide +kernel
theorem i128_72 : lk (mi_ins m128) 72 = some (.bipush (-2), 2, [0, 1, 2, 3, 4]) := by decide +kernel
theorem i128_74 : lk (mi_ins m128) 74 = some (.ireturn, 1, []) := by decide +kernel
theorem i129_0 : lk (mi_ins m129) 0 = some (.aload_n 0, 1, []) := by decide +kernel
theorem i129_1 : lk (mi_ins m129) 1 = some (.aload_n 0, 1, []) := by decide +kernel
theorem i129_2 : lk (mi_ins m129) 2 = some (.invokevirtual 182, 3, []) := by decide +kernel
theorem i129_5 : lk (mi_ins m129) 5 = some (.iconst 0, 1, []) := by decide +kernel
theorem i129_6 : lk (mi_ins m129) 6 = some (.invokevirtual 91, 3, []) := by decide +kernel
theorem i129_9 : lk (mi_ins m129) 9 = some (.ifCond .eq 5, 3, []) := by decide +kernel
theorem i129_12 : lk (mi_ins m129) 12 = some (.iconst (-1), 1, []) := by decide +kernel
theorem i129_13 : lk (mi_ins m129) 13 = some (.ireturn, 1, []) := by decide +kernel
theorem i129_14 : lk (mi_ins m129) 14 = some (.aload_n 0, 1, []) := by decide +kernel
theorem i129_15 : lk (mi_ins m129) 15 = some (.getfield 61, 3, []) := by decide +kernel
theorem i129_18 : lk (mi_ins m129) 18 = some (.aload_n 0, 1, []) := by decide +kernel
theorem i129_19 : lk (mi_ins m129) 19 = some (.getfield 23, 3, []) := by decide +kernel
theorem i129_22 : lk (mi_ins m129) 22 = some (.invokevirtual 265, 3, []) := by decide +kernel
theorem i129_25 : lk (mi_ins m129) 25 = some (.aload_n 0, 1, []) := by decide +kernel
theorem i129_26 : lk (mi_ins m129) 26 = some (.iconst 1, 1, []) := by decide +kernel
theorem i129_27 : lk (mi_ins m129) 27 = some (.iload_n 1, 1, []) := by decide +kernel
theorem i129_28 : lk (mi_ins m129) 28 = some (.iconst 0, 1, []) := by decide +kernel
theorem i129_29 : lk (mi_ins m129) 29 = some (.aload_n 0, 1, []) := by decide +kernel
theorem i129_30 : lk (mi_ins m129) 30 = some (.getfield 61, 3, []) := by decide +kernel
theorem i129_33 : lk (mi_ins m129) 33 = some (.getfield 268, 3, []) := by decide +kernel
theorem i129_36 : lk (mi_ins m129) 36 = some (.iconst 1, 1, []) := by decide +kernel
theorem i129_37 : lk (mi_ins m129) 37 = some (.isub, 1, []) := by decide +kernel
theorem i129_38 : lk (mi_ins m129) 38 = some (.invokestatic 87, 3, []) := by decide +kernel
theorem i129_41 : lk (mi_ins m129) 41 = some (.invokevirtual 102, 3, []) := by decide +kernel
theorem i129_44 : lk (mi_ins m129) 44 = some (.ifCond .eq 5, 3, []) := by decide +kernel
theorem i129_47 : lk (mi_ins m129) 47 = some (.iconst (-1), 1, []) := by decide +kernel
theorem i129_48 : lk (mi_ins m129) 48 = some (.ireturn, 1, []) := by decide +kernel
theorem i129_49 : lk (mi_ins m129) 49 = some (.aload_n 0, 1, []) := by decide +kernel
theorem i129_50 : lk (mi_ins m129) 50 = some (.getfield 61, 3, []) := by decide +kernel
theorem i129_53 : lk (mi_ins m129) 53 = some (.getfield 271, 3, []) := by decide +kernel
theorem i129_56 : lk (mi_ins m129) 56 = some (.iload_n 1, 1, []) := by decide +kernel
theorem i129_57 : lk (mi_ins m129) 57 = some (.iaload, 1, []) := by decide +kernel
theorem i129_58 : lk (mi_ins m129) 58 = some (.ireturn, 1, []) := by decide +kernel
theorem i130_0 : lk (mi_ins m130) 0 = some (.aload_n 0, 1, []) := by decide +kernel
theorem i130_1 : lk (mi_ins m130) 1 = some (.aload_n 0, 1, []) := by decide +kernel
theorem i130_2 : lk (mi_ins m130) 2 = some (.invokevirtual 182, 3, []) := by decide +kernel
theorem i130_5 : lk (mi_ins m130) 5 = some (.iconst 0, 1, []) := by decide +kernel
theorem i130_6 : lk (mi_ins m130) 6 = some (.invokevirtual 91, 3, []) := by decide +kernel
theorem i130_9 : lk (mi_ins m130) 9 = some (.ifCond .eq 5, 3, []) := by decide +kernel
theorem i130_12 : lk (mi_ins m130) 12 = some (.iconst (-1), 1, []) := by decide +kernel
theorem i130_13 : lk (mi_ins m130) 13 = some (.ireturn, 1, []) := by decide +kernel
theorem i130_14 : lk (mi_ins m130) 14 = some (.aload_n 0, 1, []) := by decide +kernel
theorem i130_15 : lk (mi_ins m130) 15 = some (.getfield 61, 3, []) := by decide +kernel
theorem i130_18 : lk (mi_ins m130) 18 = some (.aload_n 0, 1, []) := by decide +kernel
theorem i130_19 : lk (mi_ins m130) 19 = some (.getfield 23, 3, []) := by decide +kernel
theorem i130_22 : lk (mi_ins m130) 22 = some (.invokevirtual 265, 3, []) := by decide +kernel
theorem i130_25 : lk (mi_ins m130) 25 = some (.aload_n 0, 1, []) := by decide +kernel
theorem i130_26 : lk (mi_ins m130) 26 = some (.getfield 61, 3, []) := by decide +kernel
theorem i130_29 : lk (mi_ins m130) 29 = some (.invokevirtual 274, 3, []) := by decide +kernel
theorem i130_32 : lk (mi_ins m130) 32 = some (.ireturn, 1, []) := by decide +kernel
theorem i131_0 : lk (mi_ins m131) 0 = some (.iconst 0, 1, []) := by decide +kernel
theorem i131_1 : lk (mi_ins m131) 1 = some (.istore_n 1, 1, []) := by decide +kernel
theorem i131_2 : lk (mi_ins m131) 2 = some (.iconst 0, 1, []) := by decide +kernel
theorem i131_3 : lk (mi_ins m131) 3 = some (.istore_n 2, 1, []) := by decide +kernel
theorem i131_4 : lk (mi_ins m131) 4 = some (.iload_n 2, 1, []) := by decide +kernel
theorem i131_5 : lk (mi_ins m131) 5 = some (.aload_n 0, 1, []) := by decide +kernel
theorem i131_6 : lk (mi_ins m131) 6 = some (.getfield 31, 3, []) := by decide +kernel
theorem i131_9 : lk (mi_ins m131) 9 = some (.if_icmp .ge 18, 3, []) := by decide +kernel
theorem i131_12 : lk (mi_ins m131) 12 = some (.iload_n 1, 1, []) := by decide +kernel
theorem i131_13 : lk (mi_ins m131) 13 = some (.aload_n 0, 1, []) := by decide +kernel
theorem i131_14 : lk (mi_ins m131) 14 = some (.getfield 11, 3, []) := by decide +kernel
theorem i131_17 : lk (mi_ins m131) 17 = some (.iload_n 2, 1, []) := by decide +kernel
theorem i131_18 : lk (mi_ins m131) 18 = some (.iaload, 1, []) := by decide +kernel
theorem i131_19 : lk (mi_ins m131) 19 = some (.ior, 1, []) := by decide +kernel
theorem i131_20 : lk (mi_ins m131) 20 = some (.istore_n 1, 1, []) := by decide +kernel
theorem i131_21 : lk (mi_ins m131) 21 = some (.iinc 2 1, 3, []) := by decide +kernel
theorem i131_24 : lk (mi_ins m131) 24 = some (.goto (-20), 3, []) := by decide +kernel
theorem i131_27 : lk (mi_ins m131) 27 = some (.iload_n 1, 1, [0, 2]) := by decide +kernel
theorem i131_28 : lk (mi_ins m131) 28 = some (.ireturn, 1, []) := by decide +kernel
theorem i132_0 : lk (mi_ins m132) 0 = some (.aload_n 0, 1, []) := by decide +kernel
theorem i132_1 : lk (mi_ins m132) 1 = some (.aload_n 0, 1, []) := by decide +kernel
theorem i132_2 : lk (mi_ins m132) 2 = some (.invokevirtual 182, 3, []) := by decide +kernel
theorem i132_5 : lk (mi_ins m132) 5 = some (.iconst 0, 1, []) := by decide +kernel
theorem i132_6 : lk (mi_ins m132) 6 = some (.invokevirtual 91, 3, []) := by decide +kernel
theorem i132_9 : lk (mi_ins m132) 9 = some (.ifCond .eq 5, 3, []) := by decide +kernel
theorem i132_12 : lk (mi_ins m132) 12 = some (.iconst (-1), 1, []) := by decide +kernel
theorem i132_13 : lk (mi_ins m132) 13 = some (.ireturn, 1, []) := by decide +kernel
theorem i132_14 : lk (mi_ins m132) 14 = some (.aload_n 0, 1, []) := by decide +kernel
theorem i132_15 : lk (mi_ins m132) 15 = some (.getfield 61, 3, []) := by decide +kernel
theorem i132_18 : lk (mi_ins m132) 18 = some (.aload_n 0, 1, []) := by decide +kernel
theorem i132_19 : lk (mi_ins m132) 19 = some (.getfield 23, 3, []) := by decide +kernel
theorem i132_22 : lk (mi_ins m132) 22 = some (.invokevirtual 265, 3, []) := by decide +kernel
theorem i132_25 : lk (mi_ins m132) 25 = some (.aload_n 0, 1, []) := by decide +kernel
theorem i132_26 : lk (mi_ins m132) 26 = some (.getfield 61, 3, []) := by decide +kernel
theorem i132_29 : lk (mi_ins m132) 29 = some (.invokevirtual 277, 3, []) := by decide +kernel
theorem i132_32 : lk (mi_ins m132) 32 = some (.ireturn, 1, []) := by decide +kernel
theorem i133_0 : lk (mi_ins m133) 0 = some (.aload_n 0, 1, []) := by decide +kernel
theorem i133_1 : lk (mi_ins m133) 1 = some (.getfield 31, 3, []) := by decide +kernel
theorem i133_4 : lk (mi_ins m133) 4 = some (.ifCond .le 12, 3, []) := by decide +kernel
theorem i133_7 : lk (mi_ins m133) 7 = some (.aload_n 0, 1, []) := by decide +kernel
theorem i133_8 : lk (mi_ins m133) 8 = some (.getfield 11, 3, []) := by decide +kernel
theorem i133_11 : lk (mi_ins m133) 11 = some (.iconst 0, 1, []) := by decide +kernel
theorem i133_12 : lk (mi_ins m133) 12 = some (.iaload, 1, []) := by decide +kernel
theorem i133_13 : lk (mi_ins m133) 13 = some (.goto 4, 3, []) := by decide +kernel
theorem i133_16 : lk (mi_ins m133) 16 = some (.iconst 0, 1, []) := by decide +kernel
theorem i133_17 : lk (mi_ins m133) 17 = some (.istore_n 1, 1, [1, 2]) := by decide +kernel
theorem i133_18 : lk (mi_ins m133) 18 = some (.iconst 1, 1, []) := by decide +kernel
theorem i133_19 : lk (mi_ins m133) 19 = some (.istore_n 2, 1, []) := by decide +kernel
theorem i133_20 : lk (mi_ins m133) 20 = some (.iload_n 2, 1, []) := by decide +kernel
theorem i133_21 : lk (mi_ins m133) 21 = some (.aload_n 0, 1, []) := by decide +kernel
theorem i133_22 : lk (mi_ins m133) 22 = some (.getfield 31, 3, []) := by decide +kernel
theorem i133_25 : lk (mi_ins m133) 25 = some (.if_icmp .ge 18, 3, []) := by decide +kernel
theorem i133_28 : lk (mi_ins m133) 28 = some (.iload_n 1, 1, []) := by decide +kernel
theorem i133_29 : lk (mi_ins m133) 29 = some (.aload_n 0, 1, []) := by decide +kernel
theorem i133_30 : lk (mi_ins m133) 30 = some (.getfield 11, 3, []) := by decide +kernel
theorem i133_33 : lk (mi_ins m133) 33 = some (.iload_n 2, 1, []) := by decide +kernel
theorem i133_34 : lk (mi_ins m133) 34 = some (.iaload, 1, []) := by decide +kernel
theorem i133_35 : lk (mi_ins m133) 35 = some (.iand, 1, []) := by decide +kernel
theorem i133_36 : lk (mi_ins m133) 36 = some (.istore_n 1, 1, []) := by decide +kernel
theorem i133_37 : lk (mi_ins m133) 37 = some (.iinc 2 1, 3, []) := by decide +kernel
theorem i133_40 : lk (mi_ins m133) 40 = some (.goto (-20), 3, []) := by decide +kernel
theorem i133_43 : lk (mi_ins m133) 43 = some (.iload_n 1, 1, [0, 2]) := by decide +kernel
theorem i133_44 : lk (mi_ins m133) 44 = some (.ireturn, 1, []) := by decide +kernel
theorem i134_0 : lk (mi_ins m134) 0 = some (.aload_n 0, 1, []) := by decide +kernel
theorem i134_1 : lk (mi_ins m134) 1 = some (.aload_n 0, 1, []) := by decide +kernel
theorem i134_2 : lk (mi_ins m134) 2 = some (.invokevirtual 182, 3, []) := by decide +kernel
theorem i134_5 : lk (mi_ins m134) 5 = some (.iconst 0, 1, []) := by decide +kernel
theorem i134_6 : lk (mi_ins m134) 6 = some (.invokevirtual 91, 3, []) := by decide +kernel
theorem i134_9 : lk (mi_ins m134) 9 = some (.ifCond .eq 5, 3, []) := by decide +kernel
theorem i134_12 : lk (mi_ins m134) 12 = some (.iconst (-1), 1, []) := by decide +kernel
theorem i134_13 : lk (mi_ins m134) 13 = some (.ireturn, 1, []) := by decide +kernel
theorem i134_14 : lk (mi_ins m134) 14 = some (.aload_n 0, 1, []) := by decide +kernel
theorem i134_15 : lk (mi_ins m134) 15 = some (.getfield 61, 3, []) := by decide +kernel
theorem i134_18 : lk (mi_ins m134) 18 = some (.aload_n 0, 1, []) := by decide +kernel
theorem i134_19 : lk (mi_ins m134) 19 = some (.getfield 23, 3, []) := by decide +kernel
theorem i134_22 : lk (mi_ins m134) 22 = some (.invokevirtual 265, 3, []) := by decide +kernel
theorem i134_25 : lk (mi_ins m134) 25 = some (.aload_n 0, 1, []) := by decide +kernel
theorem i134_26 : lk (mi_ins m134) 26 = some (.getfield 61, 3, []) := by decide +kernel
theorem i134_29 : lk (mi_ins m134) 29 = some (.aload_n 0, 1, []) := by decide +kernel
theorem i134_30 : lk (mi_ins m134) 30 = some (.getfield 23, 3, []) := by decide +kernel
theorem i134_33 : lk (mi_ins m134) 33 = some (.getfield 280, 3, []) := by decide +kernel
theorem i134_36 : lk (mi_ins m134) 36 = some (.invokevirtual 283, 3, []) := by decide +kernel
theorem i134_39 : lk (mi_ins m134) 39 = some (.ireturn, 1, []) := by decide +kernel
theorem i135_0 : lk (mi_ins m135) 0 = some (.aload_n 0, 1, []) := by decide +kernel
theorem i135_1 : lk (mi_ins m135) 1 = some (.getfield 31, 3, []) := by decide +kernel
theorem i135_4 : lk (mi_ins m135) 4 = some (.ifCond .eq 7, 3, []) := by decide +kernel
theorem i135_7 : lk (mi_ins m135) 7 = some (.iload_n 1, 1, []) := by decide +kernel
theorem i135_8 : lk (mi_ins m135) 8 = some (.ifCond .ne 6, 3, []) := by decide +kernel
theorem i135_11 : lk (mi_ins m135) 11 = some (.bipush (-2), 2, [0, 1, 2, 3]) := by decide +kernel
theorem i135_13 : lk (mi_ins m135) 13 = some (.ireturn, 1, []) := by decide +kernel
theorem i135_14 : lk (mi_ins m135) 14 = some (.iconst 0, 1, []) := by decide +kernel
theorem i135_15 : lk (mi_ins m135) 15 = some (.istore_n 2, 1, []) := by decide +kernel
theorem i135_16 : lk (mi_ins m135) 16 = some (.iconst 1, 1, []) := by decide +kernel
theorem i135_17 : lk (mi_ins m135) 17 = some (.istore_n 3, 1, []) := by decide +kernel
theorem i135_18 : lk (mi_ins m135) 18 = some (.iload_n 3, 1, []) := by decide +kernel
theorem i135_19 : lk (mi_ins m135) 19 = some (.iload_n 1, 1, []) := by decide +kernel
theorem i135_20 : lk (mi_ins m135) 20 = some (.if_icmp .ge 24, 3, []) := by decide +kernel
theorem i135_23 : lk (mi_ins m135) 23 = some (.aload_n 0, 1, []) := by decide +kernel
theorem i135_24 : lk (mi_ins m135) 24 = some (.iload_n 3, 1, []) := by decide +kernel
theorem i135_25 : lk (mi_ins m135) 25 = some (.invokevirtual 68, 3, []) := by decide +kernel
theorem i135_28 : lk (mi_ins m135) 28 = some (.aload_n 0, 1, []) := by decide +kernel
theorem i135_29 : lk (mi_ins m135) 29 = some (.iload_n 2, 1, []) := by decide +kernel
theorem i135_30 : lk (mi_ins m135) 30 = some (.invokevirtual 68, 3, []) := by decide +kernel
theorem i135_33 : lk (mi_ins m135) 33 = some (.if_icmp .ge 5, 3, []) := by decide +kernel
theorem i135_36 : lk (mi_ins m135) 36 = some (.iload_n 3, 1, []) := by decide +kernel
theorem i135_37 : lk (mi_ins m135) 37 = some (.istore_n 2, 1, []) := by decide +kernel
theorem i135_38 : lk (mi_ins m135) 38 = some (.iinc 3 1, 3, []) := by decide +kernel
theorem i135_41 : lk (mi_ins m135) 41 = some (.goto (-23), 3, []) := by decide +kernel
theorem i135_44 : lk (mi_ins m135) 44 = some (.iload_n 2, 1, [0, 1, 3]) := by decide +kernel
theorem i135_45 : lk (mi_ins m135) 45 = some (.ireturn, 1, []) := by decide +kernel
theorem i136_0 : lk (mi_ins m136) 0 = some (.iconst 0, 1, []) := by decide +kernel
theorem i136_1 : lk (mi_ins m136) 1 = some (.istore_n 2, 1, []) := by decide +kernel
theorem i136_2 : lk (mi_ins m136) 2 = some (.iconst 0, 1, []) := by decide +kernel
theorem i136_3 : lk (mi_ins m136) 3 = some (.istore_n 3, 1, []) := by decide +kernel
theorem i136_4 : lk (mi_ins m136) 4 = some (.iload_n 3, 1, []) := by decide +kernel
theorem i136_5 : lk (mi_ins m136) 5 = some (.aload_n 0, 1, []) := by decide +kernel
theorem i136_6 : lk (mi_ins m136) 6 = some (.getfield 31, 3, []) := by decide +kernel
theorem i136_9 : lk (mi_ins m136) 9 = some (.if_icmp .ge 22, 3, []) := by decide +kernel
theorem i136_12 : lk (mi_ins m136) 12 = some (.iload_n 2, 1, []) := by decide +kernel
theorem i136_13 : lk (mi_ins m136) 13 = some (.aload_n 0, 1, []) := by decide +kernel
theorem i136_14 : lk (mi_ins m136) 14 = some (.getfield 11, 3, []) := by decide +kernel
theorem i136_17 : lk (mi_ins m136) 17 = some (.iload_n 3, 1, []) := by decide +kernel
theorem i136_18 : lk (mi_ins m136) 18 = some (.iaload, 1, []) := by decide +kernel
theorem i136_19 : lk (mi_ins m136) 19 = some (.iload_n 1, 1, []) := by decide +kernel
theorem i136_20 : lk (mi_ins m136) 20 = some (.ishr, 1, []) := by decide +kernel
theorem i136_21 : lk (mi_ins m136) 21 = some (.iconst 1, 1, []) := by decide +kernel
theorem i136_22 : lk (mi_ins m136) 22 = some (.iand, 1, []) := by decide +kernel
theorem i136_23 : lk (mi_ins m136) 23 = some (.iadd, 1, []) := by decide +kernel
theorem i136_24 : lk (mi_ins m136) 24 = some (.istore_n 2, 1, []) := by decide +kernel
theorem i136_25 : lk (mi_ins m136) 25 = some (.iinc 3 1, 3, []) := by decide +kernel
theorem i136_28 : lk (mi_ins m136) 28 = some (.goto (-24), 3, []) := by decide +kernel
theorem i136_31 : lk (mi_ins m136) 31 = some (.iload_n 2, 1, [1, 3]) := by decide +kernel
theorem i136_32 : lk (mi_ins m136) 32 = some (.aload_n 0, 1, []) := by decide +kernel
theorem i136_33 : lk (mi_ins m136) 33 = some (.getfield 31, 3, []) := by decide +kernel
theorem i136_36 : lk (mi_ins m136) 36 = some (.iload_n 2, 1, []) := by decide +kernel
theorem i136_37 : lk (mi_ins m136) 37 = some (.isub, 1, []) := by decide +kernel
theorem i136_38 : lk (mi_ins m136) 38 = some (.invokestatic 72, 3, []) := by decide +kernel
theorem i136_41 : lk (mi_ins m136) 41 = some (.ireturn, 1, []) := by decide +kernel
theorem i137_0 : lk (mi_ins m137) 0 = some (.aload_n 0, 1, []) := by decide +kernel
theorem i137_1 : lk (mi_ins m137) 1 = some (.aload_n 0, 1, []) := by decide +kernel
theorem i137_2 : lk (mi_ins m137) 2 = some (.invokevirtual 182, 3, []) := by decide +kernel
theorem i137_5 : lk (mi_ins m137) 5 = some (.iconst 0, 1, []) := by decide +kernel
theorem i137_6 : lk (mi_ins m137) 6 = some (.invokevirtual 91, 3, []) := by decide +kernel
theorem i137_9 : lk (mi_ins m137) 9 = some (.ifCond .eq 5, 3, []) := by decide +kernel
theorem i137_12 : lk (mi_ins m137) 12 = some (.iconst (-1), 1, []) := by decide +kernel
theorem i137_13 : lk (mi_ins m137) 13 = some (.ireturn, 1, []) := by decide +kernel
theorem i137_14 : lk (mi_ins m137) 14 = some (.aload_n 0, 1, []) := by decide +kernel
theorem i137_15 : lk (mi_ins m137) 15 = some (.getfield 61, 3, []) := by decide +kernel
theorem i137_18 : lk (mi_ins m137) 18 = some (.aload_n 0, 1, []) := by decide +kernel
theorem i137_19 : lk (mi_ins m137) 19 = some (.getfield 23, 3, []) := by decide +kernel
theorem i137_22 : lk (mi_ins m137) 22 = some (.invokevirtual 265, 3, []) := by decide +kernel
theorem i137_25 : lk (mi_ins m137) 25 = some (.aload_n 0, 1, []) := by decide +kernel
theorem i137_26 : lk (mi_ins m137) 26 = some (.getfield 61, 3, []) := by decide +kernel
theorem i137_29 : lk (mi_ins m137) 29 = some (.aload_n 0, 1, []) := by decide +kernel
theorem i137_30 : lk (mi_ins m137) 30 = some (.getfield 23, 3, []) := by decide +kernel
theorem i137_33 : lk (mi_ins m137) 33 = some (.getfield 280, 3, []) := by decide +kernel
theorem i137_36 : lk (mi_ins m137) 36 = some (.invokevirtual 283, 3, []) := by decide +kernel
theorem i137_39 : lk (mi_ins m137) 39 = some (.istore_n 1, 1, []) := by decide +kernel
theorem i137_40 : lk (mi_ins m137) 40 = some (.iload_n 1, 1, []) := by decide +kernel
theorem i137_41 : lk (mi_ins m137) 41 = some (.ifCond .ge 8, 3, []) := by decide +kernel
theorem i137_44 : lk (mi_ins m137) 44 = some (.bipush (-2), 2, []) := by decide +kernel
theorem i137_46 : lk (mi_ins m137) 46 = some (.goto 11, 3, []) := by decide +kernel
theorem i137_49 : lk (mi_ins m137) 49 = some (.aload_n 0, 1, []) := by decide +kernel
theorem i137_50 : lk (mi_ins m137) 50 = some (.getfield 61, 3, []) := by decide +kernel
theorem i137_53 : lk (mi_ins m137) 53 = some (.iload_n 1, 1, []) := by decide +kernel
theorem i137_54 : lk (mi_ins m137) 54 = some (.invokevirtual 286, 3, []) := by decide +kernel
theorem i137_57 : lk (mi_ins m137) 57 = some (.ireturn, 1, [0, 1]) := by decide +kernel
theorem i138_0 : lk (mi_ins m138) 0 = some (.aload_n 0, 1, []) := by decide +kernel
theorem i138_1 : lk (mi_ins m138) 1 = some (.aload_n 0, 1, []) := by decide +kernel
theorem i138_2 : lk (mi_ins m138) 2 = some (.invokevirtual 182, 3, []) := by decide +kernel
theorem i138_5 : lk (mi_ins m138) 5 = some (.iconst 0, 1, []) := by decide +kernel
theorem i138_6 : lk (mi_ins m138) 6 = some (.invokevirtual 91, 3, []) := by decide +kernel
theorem i138_9 : lk (mi_ins m138) 9 = some (.ifCond .eq 5, 3, []) := by decide +kernel
theorem i138_12 : lk (mi_ins m138) 12 = some (.iconst (-1), 1, []) := by decide +kernel
theorem i138_13 : lk (mi_ins m138) 13 = some (.ireturn, 1, []) := by decide +kernel
theorem i138_14 : lk (mi_ins m138) 14 = some (.aload_n 0, 1, []) := by decide +kernel
theorem i138_15 : lk (mi_ins m138) 15 = some (.getfield 61, 3, []) := by decide +kernel
theorem i138_18 : lk (mi_ins m138) 18 = some (.aload_n 0, 1, []) := by decide +kernel
theorem i138_19 : lk (mi_ins m138) 19 = some (.getfield 23, 3, []) := by decide +kernel
theorem i138_22 : lk (mi_ins m138) 22 = some (.iconst 0, 1, []) := by decide +kernel
theorem i138_23 : lk (mi_ins m138) 23 = some (.invokevirtual 289, 3, []) := by decide +kernel
theorem i138_26 : lk (mi_ins m138) 26 = some (.ireturn, 1, []) := by decide +kernel
theorem i139_0 : lk (mi_ins m139) 0 = some (.aload_n 0, 1, []) := by decide +kernel
theorem i139_1 : lk (mi_ins m139) 1 = some (.aload_n 0, 1, []) := by decide +kernel
theorem i139_2 : lk (mi_ins m139) 2 = some (.invokevirtual 182, 3, []) := by decide +kernel
theorem i139_5 : lk (mi_ins m139) 5 = some (.iload_n 1, 1, []) := by decide +kernel
theorem i139_6 : lk (mi_ins m139) 6 = some (.iconst 0, 1, []) := by decide +kernel
theorem i139_7 : lk (mi_ins m139) 7 = some (.iconst 4, 1, []) := by decide +kernel
theorem i139_8 : lk (mi_ins m139) 8 = some (.invokestatic 87, 3, []) := by decide +kernel
theorem i139_11 : lk (mi_ins m139) 11 = some (.invokevirtual 91, 3, []) := by decide +kernel
theorem i139_14 : lk (mi_ins m139) 14 = some (.ifCond .eq 5, 3, []) := by decide +kernel
theorem i139_17 : lk (mi_ins m139) 17 = some (.iconst (-1), 1, []) := by decide +kernel
theorem i139_18 : lk (mi_ins m139) 18 = some (.ireturn, 1, []) := by decide +kernel
theorem i139_19 : lk (mi_ins m139) 19 = some (.aload_n 0, 1, []) := by decide +kernel
theorem i139_20 : lk (mi_ins m139) 20 = some (.getfield 68, 3, []) := by decide +kernel
theorem i139_23 : lk (mi_ins m139) 23 = some (.aload_n 0, 1, []) := by decide +kernel
theorem i139_24 : lk (mi_ins m139) 24 = some (.getfield 23, 3, []) := by decide +kernel
theorem i139_27 : lk (mi_ins m139) 27 = some (.aload_n 0, 1, []) := by decide +kernel
theorem i139_28 : lk (mi_ins m139) 28 = some (.getfield 30, 3, []) := by decide +kernel
theorem i139_31 : lk (mi_ins m139) 31 = some (.iload_n 1, 1, []) := by decide +kernel
theorem i139_32 : lk (mi_ins m139) 32 = some (.invokevirtual 293, 3, []) := by decide +kernel
theorem i139_35 : lk (mi_ins m139) 35 = some (.ireturn, 1, []) := by decide +kernel
theorem i140_0 : lk (mi_ins m140) 0 = some (.aload_n 0, 1, []) := by decide +kernel
theorem i140_1 : lk (mi_ins m140) 1 = some (.getfield 12, 3, []) := by decide +kernel
theorem i140_4 : lk (mi_ins m140) 4 = some (.aload_n 1, 1, []) := by decide +kernel
theorem i140_5 : lk (mi_ins m140) 5 = some (.aload_n 2, 1, []) := by decide +kernel
theorem i140_6 : lk (mi_ins m140) 6 = some (.invokevirtual 18, 3, []) := by decide +kernel
theorem i140_9 : lk (mi_ins m140) 9 = some (.aload_n 0, 1, []) := by decide +kernel
theorem i140_10 : lk (mi_ins m140) 10 = some (.aload_n 1, 1, []) := by decide +kernel
theorem i140_11 : lk (mi_ins m140) 11 = some (.aload_n 2, 1, []) := by decide +kernel
theorem i140_12 : lk (mi_ins m140) 12 = some (.getfield 22, 3, []) := by decide +kernel
theorem i140_15 : lk (mi_ins m140) 15 = some (.iload_n 3, 1, []) := by decide +kernel
theorem i140_16 : lk (mi_ins m140) 16 = some (.invokevirtual 28, 3, []) := by decide +kernel
theorem i140_19 : lk (mi_ins m140) 19 = some (.ireturn, 1, []) := by decide +kernel
theorem i141_0 : lk (mi_ins m141) 0 = some (.iload_n 3, 1, []) := by decide +kernel
theorem i141_1 : lk (mi_ins m141) 1 = some (.ifCond .gt 10, 3, []) := by decide +kernel
theorem i141_4 : lk (mi_ins m141) 4 = some (.aload_n 0, 1, []) := by decide +kernel
theorem i141_5 : lk (mi_ins m141) 5 = some (.aload_n 1, 1, []) := by decide +kernel
theorem i141_6 : lk (mi_ins m141) 6 = some (.iload_n 2, 1, []) := by decide +kernel
theorem i141_7 : lk (mi_ins m141) 7 = some (.invokevirtual 44, 3, []) := by decide +kernel
theorem i141_10 : lk (mi_ins m141) 10 = some (.ireturn, 1, []) := by decide +kernel
theorem i141_11 : lk (mi_ins m141) 11 = some (.aload_n 0, 1, []) := by decide +kernel
theorem i141_12 : lk (mi_ins m141) 12 = some (.aload_n 1, 1, []) := by decide +kernel
theorem i141_13 : lk (mi_ins m141) 13 = some (.iload_n 2, 1, []) := by decide +kernel
theorem i141_14 : lk (mi_ins m141) 14 = some (.iload_n 3, 1, []) := by decide +kernel
theorem i141_15 : lk (mi_ins m141) 15 = some (.iconst 1, 1, []) := by decide +kernel
theorem i141_16 : lk (mi_ins m141) 16 = some (.isub, 1, []) := by decide +kernel
theorem i141_17 : lk (mi_ins m141) 17 = some (.invokevirtual 32, 3, []) := by decide +kernel
theorem i141_20 : lk (mi_ins m141) 20 = some (.istore 4, 2, []) := by decide +kernel
theorem i141_22 : lk (mi_ins m141) 22 = some (.iconst 0, 1, []) := by decide +kernel
theorem i141_23 : lk (mi_ins m141) 23 = some (.istore 5, 2, []) := by decide +kernel
theorem i141_25 : lk (mi_ins m141) 25 = some (.iload 5, 2, []) := by decide +kernel
theorem i141_27 : lk (mi_ins m141) 27 = some (.aload_n 1, 1, []) := by decide +kernel
theorem i141_28 : lk (mi_ins m141) 28 = some (.getfield 35, 3, []) := by decide +kernel
theorem i141_31 : lk (mi_ins m141) 31 = some (.if_icmp .ge 41, 3, []) := by decide +kernel
theorem i141_34 : lk (mi_ins m141) 34 = some (.iload_n 2, 1, []) := by decide +kernel
theorem i141_35 : lk (mi_ins m141) 35 = some (.iload 5, 2, []) := by decide +kernel
theorem i141_37 : lk (mi_ins m141) 37 = some (.ishr, 1, []) := by decide +kernel
theorem i141_38 : lk (mi_ins m141) 38 = some (.iconst 1, 1, []) := by decide +kernel
theorem i141_39 : lk (mi_ins m141) 39 = some (.iand, 1, []) := by decide +kernel
theorem i141_40 : lk (mi_ins m141) 40 = some (.ifCond .eq 26, 3, []) := by decide +kernel
theorem i141_43 : lk (mi_ins m141) 43 = some (.iload 4, 2, []) := by decide +kernel
theorem i141_45 : lk (mi_ins m141) 45 = some (.aload_n 0, 1, []) := by decide +kernel
theorem i141_46 : lk (mi_ins m141) 46 = some (.aload_n 1, 1, []) := by decide +kernel
theorem i141_47 : lk (mi_ins m141) 47 = some (.iload_n 2, 1, []) := by decide +kernel
theorem i141_48 : lk (mi_ins m141) 48 = some (.iconst 1, 1, []) := by decide +kernel
theorem i141_49 : lk (mi_ins m141) 49 = some (.iload 5, 2, []) := by decide +kernel
theorem i141_51 : lk (mi_ins m141) 51 = some (.ishl, 1, []) := by decide +kernel
theorem i141_52 : lk (mi_ins m141) 52 = some (.iconst (-1), 1, []) := by decide +kernel
theorem i141_53 : lk (mi_ins m141) 53 = some (.ixor, 1, []) := by decide +kernel
theorem i141_54 : lk (mi_ins m141) 54 = some (.iand, 1, []) := by decide +kernel
theorem i141_55 : lk (mi_ins m141) 55 = some (.iload_n 3, 1, []) := by decide +kernel
theorem i141_56 : lk (mi_ins m141) 56 = some (.iconst 1, 1, []) := by decide +kernel
theorem i141_57 : lk (mi_ins m141) 57 = some (.isub, 1, []) := by decide +kernel
theorem i141_58 : lk (mi_ins m141) 58 = some (.invokevirtual 32, 3, []) := by decide +kernel
theorem i141_61 : lk (mi_ins m141) 61 = some (.invokestatic 48, 3, []) := by decide +kernel
theorem i141_64 : lk (mi_ins m141) 64 = some (.istore 4, 2, []) := by decide +kernel
theorem i141_66 : lk (mi_ins m141) 66 = some (.iinc 5 1, 3, []) := by decide +kernel
theorem i141_69 : lk (mi_ins m141) 69 = some (.goto (-44), 3, []) := by decide +kernel
theorem i141_72 : lk (mi_ins m141) 72 = some (.iload 4, 2, [0, 1, 2, 3, 5]) := by decide +kernel
theorem i141_74 : lk (mi_ins m141) 74 = some (.ireturn, 1, []) := by decide +kernel
theorem i142_0 : lk (mi_ins m142) 0 = some (.aload_n 0, 1, []) := by decide +kernel
theorem i142_1 : lk (mi_ins m142) 1 = some (.getfield 12, 3, []) := by decide +kernel
theorem i142_4 : lk (mi_ins m142) 4 = some (.aload_n 1, 1, []) := by decide +kernel
theorem i142_5 : lk (mi_ins m142) 5 = some (.iload_n 2, 1, []) := by decide +kernel
theorem i142_6 : lk (mi_ins m142) 6 = some (.invokevirtual 68, 3, []) := by decide +kernel
theorem i142_9 : lk (mi_ins m142) 9 = some (.aload_n 0, 1, []) := by decide +kernel
theorem i142_10 : lk (mi_ins m142) 10 = some (.getfield 12, 3, []) := by decide +kernel
theorem i142_13 : lk (mi_ins m142) 13 = some (.invokevirtual 72, 3, []) := by decide +kernel
theorem i142_16 : lk (mi_ins m142) 16 = some (.aload_n 0, 1, []) := by decide +kernel
theorem i142_17 : lk (mi_ins m142) 17 = some (.getfield 12, 3, []) := by decide +kernel
theorem i142_20 : lk (mi_ins m142) 20 = some (.invokevirtual 75, 3, []) := by decide +kernel
theorem i142_23 : lk (mi_ins m142) 23 = some (.ireturn, 1, []) := by decide +kernel
theorem i143_0 : lk (mi_ins m143) 0 = some (.iload_n 3, 1, []) := by decide +kernel
theorem i143_1 : lk (mi_ins m143) 1 = some (.ifCond .gt 10, 3, []) := by decide +kernel
theorem i143_4 : lk (mi_ins m143) 4 = some (.aload_n 0, 1, []) := by decide +kernel
theorem i143_5 : lk (mi_ins m143) 5 = some (.aload_n 1, 1, []) := by decide +kernel
theorem i143_6 : lk (mi_ins m143) 6 = some (.iload_n 2, 1, []) := by decide +kernel
theorem i143_7 : lk (mi_ins m143) 7 = some (.invokevirtual 44, 3, []) := by decide +kernel
theorem i143_10 : lk (mi_ins m143) 10 = some (.ireturn, 1, []) := by decide +kernel
theorem i143_11 : lk (mi_ins m143) 11 = some (.iload_n 3, 1, []) := by decide +kernel
theorem i143_12 : lk (mi_ins m143) 12 = some (.iconst 1, 1, []) := by decide +kernel
theorem i143_13 : lk (mi_ins m143) 13 = some (.if_icmp .ne 15, 3, []) := by decide +kernel
theorem i143_16 : lk (mi_ins m143) 16 = some (.aload_n 0, 1, []) := by decide +kernel
theorem i143_17 : lk (mi_ins m143) 17 = some (.aload_n 1, 1, []) := by decide +kernel
theorem i143_18 : lk (mi_ins m143) 18 = some (.iload_n 2, 1, []) := by decide +kernel
theorem i143_19 : lk (mi_ins m143) 19 = some (.invokevirtual 44, 3, []) := by decide +kernel
theorem i143_22 : lk (mi_ins m143) 22 = some (.aload_n 0, 1, []) := by decide +kernel
theorem i143_23 : lk (mi_ins m143) 23 = some (.invokevirtual 54, 3, []) := by decide +kernel
theorem i143_26 : lk (mi_ins m143) 26 = some (.iadd, 1, []) := by decide +kernel
theorem i143_27 : lk (mi_ins m143) 27 = some (.ireturn, 1, []) := by decide +kernel
theorem i143_28 : lk (mi_ins m143) 28 = some (.iconst 0, 1, []) := by decide +kernel
theorem i143_29 : lk (mi_ins m143) 29 = some (.istore 4, 2, []) := by decide +kernel
theorem i143_31 : lk (mi_ins m143) 31 = some (.iconst 0, 1, []) := by decide +kernel
theorem i143_32 : lk (mi_ins m143) 32 = some (.istore 5, 2, []) := by decide +kernel
theorem i143_34 : lk (mi_ins m143) 34 = some (.iload 5, 2, []) := by decide +kernel
theorem i143_36 : lk (mi_ins m143) 36 = some (.aload_n 1, 1, []) := by decide +kernel
theorem i143_37 : lk (mi_ins m143) 37 = some (.getfield 58, 3, []) := by decide +kernel
theorem i143_40 : lk (mi_ins m143) 40 = some (.if_icmp .ge 53, 3, []) := by decide +kernel
theorem i143_43 : lk (mi_ins m143) 43 = some (.aload_n 0, 1, []) := by decide +kernel
theorem i143_44 : lk (mi_ins m143) 44 = some (.getfield 12, 3, []) := by decide +kernel
theorem i143_47 : lk (mi_ins m143) 47 = some (.getfield 61, 3, []) := by decide +kernel
theorem i143_50 : lk (mi_ins m143) 50 = some (.iload 5, 2, []) := by decide +kernel
theorem i143_52 : lk (mi_ins m143) 52 = some (.dup2, 1, []) := by decide +kernel
theorem i143_53 : lk (mi_ins m143) 53 = some (.iaload, 1, []) := by decide +kernel
theorem i143_54 : lk (mi_ins m143) 54 = some (.iconst 2, 1, []) := by decide +kernel
theorem i143_55 : lk (mi_ins m143) 55 = some (.iadd, 1, []) := by decide +kernel
theorem i143_56 : lk (mi_ins m143) 56 = some (.iastore, 1, []) := by decide +kernel
theorem i143_57 : lk (mi_ins m143) 57 = some (.iload 4, 2, []) := by decide +kernel
theorem i143_59 : lk (mi_ins m143) 59 = some (.aload_n 0, 1, []) := by decide +kernel
theorem i143_60 : lk (mi_ins m143) 60 = some (.aload_n 1, 1, []) := by decide +kernel
theorem i143_61 : lk (mi_ins m143) 61 = some (.iload_n 2, 1, []) := by decide +kernel
theorem i143_62 : lk (mi_ins m143) 62 = some (.iload_n 3, 1, []) := by decide +kernel
theorem i143_63 : lk (mi_ins m143) 63 = some (.iconst 1, 1, []) := by decide +kernel
theorem i143_64 : lk (mi_ins m143) 64 = some (.isub, 1, []) := by decide +kernel
theorem i143_65 : lk (mi_ins m143) 65 = some (.invokevirtual 28, 3, []) := by decide +kernel
theorem i143_68 : lk (mi_ins m143) 68 = some (.invokestatic 65, 3, []) := by decide +kernel
theorem i143_71 : lk (mi_ins m143) 71 = some (.istore 4, 2, []) := by decide +kernel
theorem i143_73 : lk (mi_ins m143) 73 = some (.aload_n 0, 1, []) := by decide +kernel
theorem i143_74 : lk (mi_ins m143) 74 = some (.getfield 12, 3, []) := by decide +kernel
theorem i143_77 : lk (mi_ins m143) 77 = some (.getfield 61, 3, []) := by decide +kernel
theorem i143_80 : lk (mi_ins m143) 80 = some (.iload 5, 2, []) := by decide +kernel
theorem i143_82 : lk (mi_ins m143) 82 = some (.dup2, 1, []) := by decide +kernel
theorem i143_83 : lk (mi_ins m143) 83 = some (.iaload, 1, []) := by decide +kernel
theorem i143_84 : lk (mi_ins m143) 84 = some (.iconst 2, 1, []) := by decide +kernel
theorem i143_85 : lk (mi_ins m143) 85 = some (.isub, 1, []) := by decide +kernel
theorem i143_86 : lk (mi_ins m143) 86 = some (.iastore, 1, []) := by decide +kernel
theorem i143_87 : lk (mi_ins m143) 87 = some (.iinc 5 1, 3, []) := by decide +kernel
theorem i143_90 : lk (mi_ins m143) 90 = some (.goto (-56), 3, []) := by decide +kernel
theorem i143_93 : lk (mi_ins m143) 93 = some (.iload 4, 2, [0, 1, 2, 3, 5]) := by decide +kernel
theorem i143_95 : lk (mi_ins m143) 95 = some (.ireturn, 1, []) := by decide +kernel
theorem i144_0 : lk (mi_ins m144) 0 = some (.iconst 0, 1, []) := by decide +kernel
theorem i144_1 : lk (mi_ins m144) 1 = some (.istore_n 1, 1, []) := by decide +kernel
theorem i144_2 : lk (mi_ins m144) 2 = some (.iconst 0, 1, []) := by decide +kernel
theorem i144_3 : lk (mi_ins m144) 3 = some (.istore_n 2, 1, []) := by decide +kernel
theorem i144_4 : lk (mi_ins m144) 4 = some (.iload_n 2, 1, []) := by decide +kernel
theorem i144_5 : lk (mi_ins m144) 5 = some (.aload_n 0, 1, []) := by decide +kernel
theorem i144_6 : lk (mi_ins m144) 6 = some (.getfield 12, 3, []) := by decide +kernel
theorem i144_9 : lk (mi_ins m144) 9 = some (.getfield 78, 3, []) := by decide +kernel
theorem i144_12 : lk (mi_ins m144) 12 = some (.if_icmp .ge 47, 3, []) := by decide +kernel
theorem i144_15 : lk (mi_ins m144) 15 = some (.aload_n 0, 1, []) := by decide +kernel
theorem i144_16 : lk (mi_ins m144) 16 = some (.getfield 12, 3, []) := by decide +kernel
theorem i144_19 : lk (mi_ins m144) 19 = some (.getfield 79, 3, []) := by decide +kernel
theorem i144_22 : lk (mi_ins m144) 22 = some (.iload_n 2, 1, []) := by decide +kernel
theorem i144_23 : lk (mi_ins m144) 23 = some (.iaload, 1, []) := by decide +kernel
theorem i144_24 : lk (mi_ins m144) 24 = some (.ifCond .ge 29, 3, []) := by decide +kernel
theorem i144_27 : lk (mi_ins m144) 27 = some (.aload_n 0, 1, []) := by decide +kernel
theorem i144_28 : lk (mi_ins m144) 28 = some (.getfield 12, 3, []) := by decide +kernel
theorem i144_31 : lk (mi_ins m144) 31 = some (.iload_n 2, 1, []) := by decide +kernel
theorem i144_32 : lk (mi_ins m144) 32 = some (.invokevirtual 82, 3, []) := by decide +kernel
theorem i144_35 : lk (mi_ins m144) 35 = some (.iconst 2, 1, []) := by decide +kernel
theorem i144_36 : lk (mi_ins m144) 36 = some (.iadd, 1, []) := by decide +kernel
theorem i144_37 : lk (mi_ins m144) 37 = some (.ifCond .lt 16, 3, []) := by decide +kernel
theorem i144_40 : lk (mi_ins m144) 40 = some (.iload_n 1, 1, []) := by decide +kernel
theorem i144_41 : lk (mi_ins m144) 41 = some (.aload_n 0, 1, []) := by decide +kernel
theorem i144_42 : lk (mi_ins m144) 42 = some (.getfield 12, 3, []) := by decide +kernel
theorem i144_45 : lk (mi_ins m144) 45 = some (.iload_n 2, 1, []) := by decide +kernel
theorem i144_46 : lk (mi_ins m144) 46 = some (.invokevirtual 86, 3, []) := by decide +kernel
theorem i144_49 : lk (mi_ins m144) 49 = some (.invokestatic 65, 3, []) := by decide +kernel
theorem i144_52 : lk (mi_ins m144) 52 = some (.istore_n 1, 1, []) := by decide +kernel
theorem i144_53 : lk (mi_ins m144) 53 = some (.iinc 2 1, 3, []) := by decide +kernel
theorem i144_56 : lk (mi_ins m144) 56 = some (.goto (-52), 3, []) := by decide +kernel
theorem i144_59 : lk (mi_ins m144) 59 = some (.iload_n 1, 1, [0, 2]) := by decide +kernel
theorem i144_60 : lk (mi_ins m144) 60 = some (.ireturn, 1, []) := by decide +kernel
theorem i145_0 : lk (mi_ins m145) 0 = some (.aload_n 0, 1, []) := by decide +kernel
theorem i145_1 : lk (mi_ins m145) 1 = some (.aload_n 0, 1, []) := by decide +kernel
theorem i145_2 : lk (mi_ins m145) 2 = some (.invokevirtual 182, 3, []) := by decide +kernel
theorem i145_5 : lk (mi_ins m145) 5 = some (.iload_n 1, 1, []) := by decide +kernel
theorem i145_6 : lk (mi_ins m145) 6 = some (.iconst 1, 1, []) := by decide +kernel
theorem i145_7 : lk (mi_ins m145) 7 = some (.iconst 4, 1, []) := by decide +kernel
theorem i145_8 : lk (mi_ins m145) 8 = some (.invokestatic 87, 3, []) := by decide +kernel
theorem i145_11 : lk (mi_ins m145) 11 = some (.invokevirtual 91, 3, []) := by decide +kernel
theorem i145_14 : lk (mi_ins m145) 14 = some (.ifCond .eq 5, 3, []) := by decide +kernel
theorem i145_17 : lk (mi_ins m145) 17 = some (.iconst (-1), 1, []) := by decide +kernel
theorem i145_18 : lk (mi_ins m145) 18 = some (.ireturn, 1, []) := by decide +kernel
theorem i145_19 : lk (mi_ins m145) 19 = some (.aload_n 0, 1, []) := by decide +kernel
theorem i145_20 : lk (mi_ins m145) 20 = some (.getfield 68, 3, []) := by decide +kernel
theorem i145_23 : lk (mi_ins m145) 23 = some (.aload_n 0, 1, []) := by decide +kernel
theorem i145_24 : lk (mi_ins m145) 24 = some (.getfield 23, 3, []) := by decide +kernel
theorem i145_27 : lk (mi_ins m145) 27 = some (.aload_n 0, 1, []) := by decide +kernel
theorem i145_28 : lk (mi_ins m145) 28 = some (.getfield 30, 3, []) := by decide +kernel
theorem i145_31 : lk (mi_ins m145) 31 = some (.iload_n 1, 1, []) := by decide +kernel
theorem i145_32 : lk (mi_ins m145) 32 = some (.invokevirtual 297, 3, []) := by decide +kernel
theorem i145_35 : lk (mi_ins m145) 35 = some (.ireturn, 1, []) := by decide +kernel
theorem i146_0 : lk (mi_ins m146) 0 = some (.aload_n 0, 1, []) := by decide +kernel
theorem i146_1 : lk (mi_ins m146) 1 = some (.getfield 12, 3, []) := by decide +kernel
theorem i146_4 : lk (mi_ins m146) 4 = some (.aload_n 1, 1, []) := by decide +kernel
theorem i146_5 : lk (mi_ins m146) 5 = some (.aload_n 2, 1, []) := by decide +kernel
theorem i146_6 : lk (mi_ins m146) 6 = some (.invokevirtual 18, 3, []) := by decide +kernel
theorem i146_9 : lk (mi_ins m146) 9 = some (.aload_n 0, 1, []) := by decide +kernel
theorem i146_10 : lk (mi_ins m146) 10 = some (.aload_n 1, 1, []) := by decide +kernel
theorem i146_11 : lk (mi_ins m146) 11 = some (.aload_n 2, 1, []) := by decide +kernel
theorem i146_12 : lk (mi_ins m146) 12 = some (.getfield 22, 3, []) := by decide +kernel
theorem i146_15 : lk (mi_ins m146) 15 = some (.iload_n 3, 1, []) := by decide +kernel
theorem i146_16 : lk (mi_ins m146) 16 = some (.iconst 1, 1, []) := by decide +kernel
theorem i146_17 : lk (mi_ins m146) 17 = some (.isub, 1, []) := by decide +kernel
theorem i146_18 : lk (mi_ins m146) 18 = some (.invokevirtual 32, 3, []) := by decide +kernel
theorem i146_21 : lk (mi_ins m146) 21 = some (.istore 4, 2, []) := by decide +kernel
theorem i146_23 : lk (mi_ins m146) 23 = some (.bipush (-2), 2, []) := by decide +kernel
theorem i146_25 : lk (mi_ins m146) 25 = some (.istore 5, 2, []) := by decide +kernel
theorem i146_27 : lk (mi_ins m146) 27 = some (.iconst 0, 1, []) := by decide +kernel
theorem i146_28 : lk (mi_ins m146) 28 = some (.istore 6, 2, []) := by decide +kernel
theorem i146_30 : lk (mi_ins m146) 30 = some (.iload 6, 2, [7]) := by decide +kernel
theorem i146_32 : lk (mi_ins m146) 32 = some (.aload_n 1, 1, []) := by decide +kernel
theorem i146_33 : lk (mi_ins m146) 33 = some (.getfield 35, 3, []) := by decide +kernel
theorem i146_36 : lk (mi_ins m146) 36 = some (.if_icmp .ge 54, 3, []) := by decide +kernel
theorem i146_39 : lk (mi_ins m146) 39 = some (.aload_n 2, 1, []) := by decide +kernel
theorem i146_40 : lk (mi_ins m146) 40 = some (.iload 6, 2, []) := by decide +kernel
theorem i146_42 : lk (mi_ins m146) 42 = some (.invokevirtual 40, 3, []) := by decide +kernel
theorem i146_45 : lk (mi_ins m146) 45 = some (.ifCond .eq 39, 3, []) := by decide +kernel
theorem i146_48 : lk (mi_ins m146) 48 = some (.aload_n 0, 1, []) := by decide +kernel
theorem i146_49 : lk (mi_ins m146) 49 = some (.aload_n 1, 1, []) := by decide +kernel
theorem i146_50 : lk (mi_ins m146) 50 = some (.aload_n 2, 1, []) := by decide +kernel
theorem i146_51 : lk (mi_ins m146) 51 = some (.getfield 22, 3, []) := by decide +kernel
theorem i146_54 : lk (mi_ins m146) 54 = some (.iconst 1, 1, []) := by decide +kernel
theorem i146_55 : lk (mi_ins m146) 55 = some (.iload 6, 2, []) := by decide +kernel
theorem i146_57 : lk (mi_ins m146) 57 = some (.ishl, 1, []) := by decide +kernel
theorem i146_58 : lk (mi_ins m146) 58 = some (.iconst (-1), 1, []) := by decide +kernel
theorem i146_59 : lk (mi_ins m146) 59 = some (.ixor, 1, []) := by decide +kernel
theorem i146_60 : lk (mi_ins m146) 60 = some (.iand, 1, []) := by decide +kernel
theorem i146_61 : lk (mi_ins m146) 61 = some (.iload_n 3, 1, []) := by decide +kernel
theorem i146_62 : lk (mi_ins m146) 62 = some (.iconst 1, 1, []) := by decide +kernel
theorem i146_63 : lk (mi_ins m146) 63 = some (.isub, 1, []) := by decide +kernel
theorem i146_64 : lk (mi_ins m146) 64 = some (.invokevirtual 32, 3, []) := by decide +kernel
theorem i146_67 : lk (mi_ins m146) 67 = some (.istore 7, 2, []) := by decide +kernel
theorem i146_69 : lk (mi_ins m146) 69 = some (.iload 7, 2, []) := by decide +kernel
theorem i146_71 : lk (mi_ins m146) 71 = some (.iload 4, 2, []) := by decide +kernel
theorem i146_73 : lk (mi_ins m146) 73 = some (.if_icmp .ge 11, 3, []) := by decide +kernel
theorem i146_76 : lk (mi_ins m146) 76 = some (.iload 7, 2, []) := by decide +kernel
theorem i146_78 : lk (mi_ins m146) 78 = some (.istore 4, 2, []) := by decide +kernel
theorem i146_80 : lk (mi_ins m146) 80 = some (.iload 6, 2, []) := by decide +kernel
theorem i146_82 : lk (mi_ins m146) 82 = some (.istore 5, 2, []) := by decide +kernel
theorem i146_84 : lk (mi_ins m146) 84 = some (.iinc 6 1, 3, [7]) := by decide +kernel
theorem i146_87 : lk (mi_ins m146) 87 = some (.goto (-57), 3, []) := by decide +kernel
theorem i146_90 : lk (mi_ins m146) 90 = some (.iload 5, 2, [0, 1, 2, 3, 4, 6, 7]) := by decide +kernel
theorem i146_92 : lk (mi_ins m146) 92 = some (.ireturn, 1, []) := by decide +kernel
theorem i147_0 : lk (mi_ins m147) 0 = some (.aload_n 0, 1, []) := by decide +kernel
theorem i147_1 : lk (mi_ins m147) 1 = some (.iload_n 1, 1, []) := by decide +kernel
theorem i147_2 : lk (mi_ins m147) 2 = some (.iload_n 2, 1, []) := by decide +kernel
theorem i147_3 : lk (mi_ins m147) 3 = some (.invokevirtual 300, 3, []) := by decide +kernel
theorem i147_6 : lk (mi_ins m147) 6 = some (.ifCond .eq 7, 3, []) := by decide +kernel
theorem i147_9 : lk (mi_ins m147) 9 = some (.ldc2_w 304, 3, []) := by decide +kernel
theorem i147_12 : lk (mi_ins m147) 12 = some (.lreturn, 1, []) := by decide +kernel
theorem i147_13 : lk (mi_ins m147) 13 = some (.aload_n 0, 1, []) := by decide +kernel
theorem i147_14 : lk (mi_ins m147) 14 = some (.getfield 75, 3, []) := by decide +kernel
theorem i147_17 : lk (mi_ins m147) 17 = some (.aload_n 0, 1, []) := by decide +kernel
theorem i147_18 : lk (mi_ins m147) 18 = some (.getfield 23, 3, []) := by decide +kernel
theorem i147_21 : lk (mi_ins m147) 21 = some (.aload_n 0, 1, []) := by decide +kernel
theorem i147_22 : lk (mi_ins m147) 22 = some (.getfield 30, 3, []) := by decide +kernel
theorem i147_25 : lk (mi_ins m147) 25 = some (.iload_n 1, 1, []) := by decide +kernel
theorem i147_26 : lk (mi_ins m147) 26 = some (.iload_n 2, 1, []) := by decide +kernel
theorem i147_27 : lk (mi_ins m147) 27 = some (.invokevirtual 306, 3, []) := by decide +kernel
theorem i147_30 : lk (mi_ins m147) 30 = some (.aload_n 0, 1, []) := by decide +kernel
theorem i147_31 : lk (mi_ins m147) 31 = some (.getfield 75, 3, []) := by decide +kernel
theorem i147_34 : lk (mi_ins m147) 34 = some (.getfield 310, 3, []) := by decide +kernel
theorem i147_37 : lk (mi_ins m147) 37 = some (.aload_n 0, 1, []) := by decide +kernel
theorem i147_38 : lk (mi_ins m147) 38 = some (.getfield 75, 3, []) := by decide +kernel
theorem i147_41 : lk (mi_ins m147) 41 = some (.getfield 314, 3, []) := by decide +kernel
theorem i147_44 : lk (mi_ins m147) 44 = some (.iload_n 3, 1, []) := by decide +kernel
theorem i147_45 : lk (mi_ins m147) 45 = some (.invokestatic 317, 3, []) := by decide +kernel
theorem i147_48 : lk (mi_ins m147) 48 = some (.lreturn, 1, []) := by decide +kernel
theorem i148_0 : lk (mi_ins m148) 0 = some (.aload_n 0, 1, []) := by decide +kernel
theorem i148_1 : lk (mi_ins m148) 1 = some (.aload_n 0, 1, []) := by decide +kernel
theorem i148_2 : lk (mi_ins m148) 2 = some (.iload_n 1, 1, []) := by decide +kernel
theorem i148_3 : lk (mi_ins m148) 3 = some (.invokevirtual 126, 3, []) := by decide +kernel
theorem i148_6 : lk (mi_ins m148) 6 = some (.iload_n 2, 1, []) := by decide +kernel
theorem i148_7 : lk (mi_ins m148) 7 = some (.iconst 0, 1, []) := by decide +kernel
theorem i148_8 : lk (mi_ins m148) 8 = some (.iconst 4, 1, []) := by decide +kernel
theorem i148_9 : lk (mi_ins m148) 9 = some (.invokestatic 87, 3, []) := by decide +kernel
theorem i148_12 : lk (mi_ins m148) 12 = some (.invokevirtual 91, 3, []) := by decide +kernel
theorem i148_15 : lk (mi_ins m148) 15 = some (.ifCond .ne 27, 3, []) := by decide +kernel
theorem i148_18 : lk (mi_ins m148) 18 = some (.aload_n 0, 1, []) := by decide +kernel
theorem i148_19 : lk (mi_ins m148) 19 = some (.iconst 5, 1, []) := by decide +kernel
theorem i148_20 : lk (mi_ins m148) 20 = some (.aload_n 0, 1, []) := by decide +kernel
theorem i148_21 : lk (mi_ins m148) 21 = some (.getfield 23, 3, []) := by decide +kernel
theorem i148_24 : lk (mi_ins m148) 24 = some (.iload_n 1, 1, []) := by decide +kernel
theorem i148_25 : lk (mi_ins m148) 25 = some (.invokevirtual 134, 3, []) := by decide +kernel
theorem i148_28 : lk (mi_ins m148) 28 = some (.ifCond .ne 7, 3, []) := by decide +kernel
theorem i148_31 : lk (mi_ins m148) 31 = some (.iconst 1, 1, []) := by decide +kernel
theorem i148_32 : lk (mi_ins m148) 32 = some (.goto 4, 3, []) := by decide +kernel
theorem i148_35 : lk (mi_ins m148) 35 = some (.iconst 0, 1, []) := by decide +kernel
theorem i148_36 : lk (mi_ins m148) 36 = some (.invokevirtual 102, 3, [0, 1, 2]) := by decide +kernel
theorem i148_39 : lk (mi_ins m148) 39 = some (.ifCond .eq 7, 3, []) := by decide +kernel
theorem i148_42 : lk (mi_ins m148) 42 = some (.iconst 1, 1, [0, 1, 2]) := by decide +kernel
theorem i148_43 : lk (mi_ins m148) 43 = some (.goto 4, 3, []) := by decide +kernel
theorem i148_46 : lk (mi_ins m148) 46 = some (.iconst 0, 1, []) := by decide +kernel
theorem i148_47 : lk (mi_ins m148) 47 = some (.ireturn, 1, [0, 1, 2]) := by decide +kernel
theorem i149_0 : lk (mi_ins m149) 0 = some (.aload_n 0, 1, []) := by decide +kernel
theorem i149_1 : lk (mi_ins m149) 1 = some (.lconst 1, 1, []) := by decide +kernel
theorem i149_2 : lk (mi_ins m149) 2 = some (.putfield 16, 3, []) := by decide +kernel
theorem i149_5 : lk (mi_ins m149) 5 = some (.iconst 0, 1, []) := by decide +kernel
theorem i149_6 : lk (mi_ins m149) 6 = some (.istore 5, 2, []) := by decide +kernel
theorem i149_8 : lk (mi_ins m149) 8 = some (.iload 5, 2, [6, 7, 8, 9]) := by decide +kernel
theorem i149_10 : lk (mi_ins m149) 10 = some (.iload 4, 2, []) := by decide +kernel
theorem i149_12 : lk (mi_ins m149) 12 = some (.if_icmp .ge 21, 3, []) := by decide +kernel
theorem i149_15 : lk (mi_ins m149) 15 = some (.aload_n 0, 1, []) := by decide +kernel
theorem i149_16 : lk (mi_ins m149) 16 = some (.dup, 1, []) := by decide +kernel
theorem i149_17 : lk (mi_ins m149) 17 = some (.getfield 16, 3, []) := by decide +kernel
theorem i149_20 : lk (mi_ins m149) 20 = some (.ldc2_w 20, 3, []) := by decide +kernel
theorem i149_23 : lk (mi_ins m149) 23 = some (.lmul, 1, []) := by decide +kernel
theorem i149_24 : lk (mi_ins m149) 24 = some (.putfield 16, 3, []) := by decide +kernel
theorem i149_27 : lk (mi_ins m149) 27 = some (.iinc 5 1, 3, []) := by decide +kernel
theorem i149_30 : lk (mi_ins m149) 30 = some (.goto (-22), 3, []) := by decide +kernel
theorem i149_33 : lk (mi_ins m149) 33 = some (.aload_n 0, 1, [5, 6, 7, 8, 9]) := by decide +kernel
theorem i149_34 : lk (mi_ins m149) 34 = some (.lconst 0, 1, []) := by decide +kernel
theorem i149_35 : lk (mi_ins m149) 35 = some (.putfield 22, 3, []) := by decide +kernel
theorem i149_38 : lk (mi_ins m149) 38 = some (.aload_n 0, 1, []) := by decide +kernel
theorem i149_39 : lk (mi_ins m149) 39 = some (.lconst 0, 1, []) := by decide +kernel
theorem i149_40 : lk (mi_ins m149) 40 = some (.putfield 25, 3, []) := by decide +kernel
theorem i149_43 : lk (mi_ins m149) 43 = some (.aload_n 0, 1, []) := by decide +kernel
theorem i149_44 : lk (mi_ins m149) 44 = some (.lconst 0, 1, []) := by decide +kernel
theorem i149_45 : lk (mi_ins m149) 45 = some (.putfield 28, 3, []) := by decide +kernel
theorem i149_48 : lk (mi_ins m149) 48 = some (.aload_n 1, 1, []) := by decide +kernel
theorem i149_49 : lk (mi_ins m149) 49 = some (.iload_n 3, 1, []) := by decide +kernel
theorem i149_50 : lk (mi_ins m149) 50 = some (.aload_n 2, 1, []) := by decide +kernel
theorem i149_51 : lk (mi_ins m149) 51 = some (.invokevirtual 31, 3, []) := by decide +kernel
theorem i149_54 : lk (mi_ins m149) 54 = some (.istore 5, 2, []) := by decide +kernel
theorem i149_56 : lk (mi_ins m149) 56 = some (.iconst 0, 1, []) := by decide +kernel
theorem i149_57 : lk (mi_ins m149) 57 = some (.istore 6, 2, []) := by decide +kernel
theorem i149_59 : lk (mi_ins m149) 59 = some (.iload 6, 2, [7, 8, 9]) := by decide +kernel
theorem i149_61 : lk (mi_ins m149) 61 = some (.iconst 1, 1, []) := by decide +kernel
theorem i149_62 : lk (mi_ins m149) 62 = some (.iload 4, 2, []) := by decide +kernel
theorem i149_64 : lk (mi_ins m149) 64 = some (.ishl, 1, []) := by decide +kernel
theorem i149_65 : lk (mi_ins m149) 65 = some (.if_icmp .ge 107, 3, []) := by decide +kernel
theorem i149_68 : lk (mi_ins m149) 68 = some (.iload 6, 2, []) := by decide +kernel
theorem i149_70 : lk (mi_ins m149) 70 = some (.iload 4, 2, []) := by decide +kernel
theorem i149_72 : lk (mi_ins m149) 72 = some (.aload_n 1, 1, []) := by decide +kernel
theorem i149_73 : lk (mi_ins m149) 73 = some (.getfield 37, 3, []) := by decide +kernel
theorem i149_76 : lk (mi_ins m149) 76 = some (.invokestatic 41, 3, []) := by decide +kernel
theorem i149_79 : lk (mi_ins m149) 79 = some (.lstore 7, 2, []) := by decide +kernel
theorem i149_81 : lk (mi_ins m149) 81 = some (.lload 7, 2, []) := by decide +kernel
theorem i149_83 : lk (mi_ins m149) 83 = some (.lconst 0, 1, []) := by decide +kernel
theorem i149_84 : lk (mi_ins m149) 84 = some (.lcmp, 1, []) := by decide +kernel
theorem i149_85 : lk (mi_ins m149) 85 = some (.ifCond .le 81, 3, []) := by decide +kernel
theorem i149_88 : lk (mi_ins m149) 88 = some (.aload_n 0, 1, []) := by decide +kernel
theorem i149_89 : lk (mi_ins m149) 89 = some (.getfield 10, 3, []) := by decide +kernel
theorem i149_92 : lk (mi_ins m149) 92 = some (.aload_n 2, 1, []) := by decide +kernel
theorem i149_93 : lk (mi_ins m149) 93 = some (.invokevirtual 45, 3, []) := by decide +kernel
theorem i149_96 : lk (mi_ins m149) 96 = some (.aload_n 0, 1, []) := by decide +kernel
theorem i149_97 : lk (mi_ins m149) 97 = some (.dup, 1, []) := by decide +kernel
theorem i149_98 : lk (mi_ins m149) 98 = some (.getfield 28, 3, []) := by decide +kernel
theorem i149_101 : lk (mi_ins m149) 101 = some (.lload 7, 2, []) := by decide +kernel
theorem i149_103 : lk (mi_ins m149) 103 = some (.aload_n 0, 1, []) := by decide +kernel
theorem i149_104 : lk (mi_ins m149) 104 = some (.iload 6, 2, []) := by decide +kernel
theorem i149_106 : lk (mi_ins m149) 106 = some (.iload_n 3, 1, []) := by decide +kernel
theorem i149_107 : lk (mi_ins m149) 107 = some (.iload 4, 2, []) := by decide +kernel
theorem i149_109 : lk (mi_ins m149) 109 = some (.invokevirtual 49, 3, []) := by decide +kernel
theorem i149_112 : lk (mi_ins m149) 112 = some (.i2l, 1, []) := by decide +kernel
theorem i149_113 : lk (mi_ins m149) 113 = some (.lmul, 1, []) := by decide +kernel
theorem i149_114 : lk (mi_ins m149) 114 = some (.ladd, 1, []) := by decide +kernel
theorem i149_115 : lk (mi_ins m149) 115 = some (.putfield 28, 3, []) := by decide +kernel
theorem i149_118 : lk (mi_ins m149) 118 = some (.aload_n 0, 1, []) := by decide +kernel
theorem i149_119 : lk (mi_ins m149) 119 = some (.getfield 10, 3, []) := by decide +kernel
theorem i149_122 : lk (mi_ins m149) 122 = some (.iload_n 3, 1, []) := by decide +kernel
theorem i149_123 : lk (mi_ins m149) 123 = some (.invokevirtual 53, 3, []) := by decide +kernel
theorem i149_126 : lk (mi_ins m149) 126 = some (.iload 5, 2, []) := by decide +kernel
theorem i149_128 : lk (mi_ins m149) 128 = some (.isub, 1, []) := by decide +kernel
theorem i149_129 : lk (mi_ins m149) 129 = some (.istore 9, 2, []) := by decide +kernel
theorem i149_131 : lk (mi_ins m149) 131 = some (.aload_n 0, 1, []) := by decide +kernel
theorem i149_132 : lk (mi_ins m149) 132 = some (.dup, 1, []) := by decide +kernel
theorem i149_133 : lk (mi_ins m149) 133 = some (.getfield 25, 3, []) := by decide +kernel
theorem i149_136 : lk (mi_ins m149) 136 = some (.lload 7, 2, []) := by decide +kernel
theorem i149_138 : lk (mi_ins m149) 138 = some (.iload 9, 2, []) := by decide +kernel
theorem i149_140 : lk (mi_ins m149) 140 = some (.i2l, 1, []) := by decide +kernel
theorem i149_141 : lk (mi_ins m149) 141 = some (.lmul, 1, []) := by decide +kernel
theorem i149_142 : lk (mi_ins m149) 142 = some (.ladd, 1, []) := by decide +kernel
theorem i149_143 : lk (mi_ins m149) 143 = some (.putfield 25, 3, []) := by decide +kernel
theorem i149_146 : lk (mi_ins m149) 146 = some (.aload_n 0, 1, []) := by decide +kernel
theorem i149_147 : lk (mi_ins m149) 147 = some (.dup, 1, []) := by decide +kernel
theorem i149_148 : lk (mi_ins m149) 148 = some (.getfield 22, 3, []) := by decide +kernel
theorem i149_151 : lk (mi_ins m149) 151 = some (.iload 9, 2, []) := by decide +kernel
theorem i149_153 : lk (mi_ins m149) 153 = some (.ifCond .lt 8, 3, []) := by decide +kernel
theorem i149_156 : lk (mi_ins m149) 156 = some (.lload 7, 2, []) := by decide +kernel
theorem i149_158 : lk (mi_ins m149) 158 = some (.goto 4, 3, []) := by decide +kernel
theorem i149_161 : lk (mi_ins m149) 161 = some (.lconst 0, 1, []) := by decide +kernel
theorem i149_162 : lk (mi_ins m149) 162 = some (.ladd, 1, [7, 8, 9]) := by decide +kernel
theorem i149_163 : lk (mi_ins m149) 163 = some (.putfield 22, 3, []) := by decide +kernel
theorem i149_166 : lk (mi_ins m149) 166 = some (.iinc 6 1, 3, [7, 8, 9]) := by decide +kernel
theorem i149_169 : lk (mi_ins m149) 169 = some (.goto (-110), 3, []) := by decide +kernel
theorem i149_172 : lk (mi_ins m149) 172 = some (.return_, 1, [0, 1, 2, 3, 4, 5, 6, 7, 8, 9]) := by decide +kernel
theorem i150_0 : lk (mi_ins m150) 0 = some (.lconst 1, 1, []) := by decide +kernel
theorem i150_1 : lk (mi_ins m150) 1 = some (.lstore_n 3, 1, []) := by decide +kernel
theorem i150_2 : lk (mi_ins m150) 2 = some (.iconst 0, 1, []) := by decide +kernel
theorem i150_3 : lk (mi_ins m150) 3 = some (.istore 5, 2, []) := by decide +kernel
theorem i150_5 : lk (mi_ins m150) 5 = some (.iload 5, 2, [4]) := by decide +kernel
theorem i150_7 : lk (mi_ins m150) 7 = some (.iload_n 1, 1, []) := by decide +kernel
theorem i150_8 : lk (mi_ins m150) 8 = some (.if_icmp .ge 31, 3, []) := by decide +kernel
theorem i150_11 : lk (mi_ins m150) 11 = some (.lload_n 3, 1, []) := by decide +kernel
theorem i150_12 : lk (mi_ins m150) 12 = some (.iload_n 0, 1, []) := by decide +kernel
theorem i150_13 : lk (mi_ins m150) 13 = some (.iload 5, 2, []) := by decide +kernel
theorem i150_15 : lk (mi_ins m150) 15 = some (.ishr, 1, []) := by decide +kernel
theorem i150_16 : lk (mi_ins m150) 16 = some (.iconst 1, 1, []) := by decide +kernel
theorem i150_17 : lk (mi_ins m150) 17 = some (.iand, 1, []) := by decide +kernel
theorem i150_18 : lk (mi_ins m150) 18 = some (.ifCond .eq 8, 3, []) := by decide +kernel
theorem i150_21 : lk (mi_ins m150) 21 = some (.iload_n 2, 1, []) := by decide +kernel
theorem i150_22 : lk (mi_ins m150) 22 = some (.i2l, 1, []) := by decide +kernel
theorem i150_23 : lk (mi_ins m150) 23 = some (.goto 8, 3, []) := by decide +kernel
theorem i150_26 : lk (mi_ins m150) 26 = some (.bipush 100, 2, []) := by decide +kernel
theorem i150_28 : lk (mi_ins m150) 28 = some (.iload_n 2, 1, []) := by decide +kernel
theorem i150_29 : lk (mi_ins m150) 29 = some (.isub, 1, []) := by decide +kernel
theorem i150_30 : lk (mi_ins m150) 30 = some (.i2l, 1, []) := by decide +kernel
theorem i150_31 : lk (mi_ins m150) 31 = some (.lmul, 1, [3, 4]) := by decide +kernel
theorem i150_32 : lk (mi_ins m150) 32 = some (.lstore_n 3, 1, []) := by decide +kernel
theorem i150_33 : lk (mi_ins m150) 33 = some (.iinc 5 1, 3, []) := by decide +kernel
theorem i150_36 : lk (mi_ins m150) 36 = some (.goto (-31), 3, []) := by decide +kernel
theorem i150_39 : lk (mi_ins m150) 39 = some (.lload_n 3, 1, [0, 1, 2, 4, 5]) := by decide +kernel
theorem i150_40 : lk (mi_ins m150) 40 = some (.lreturn, 1, []) := by decide +kernel
theorem i151_0 : lk (mi_ins m151) 0 = some (.iconst 0, 1, []) := by decide +kernel
theorem i151_1 : lk (mi_ins m151) 1 = some (.istore 4, 2, []) := by decide +kernel
theorem i151_3 : lk (mi_ins m151) 3 = some (.iconst 0, 1, []) := by decide +kernel
theorem i151_4 : lk (mi_ins m151) 4 = some (.istore 5, 2, []) := by decide +kernel
theorem i151_6 : lk (mi_ins m151) 6 = some (.iload 5, 2, []) := by decide +kernel
theorem i151_8 : lk (mi_ins m151) 8 = some (.iload_n 3, 1, []) := by decide +kernel
theorem i151_9 : lk (mi_ins m151) 9 = some (.if_icmp .ge 40, 3, []) := by decide +kernel
theorem i151_12 : lk (mi_ins m151) 12 = some (.aload_n 0, 1, []) := by decide +kernel
theorem i151_13 : lk (mi_ins m151) 13 = some (.getfield 10, 3, []) := by decide +kernel
theorem i151_16 : lk (mi_ins m151) 16 = some (.iload_n 2, 1, []) := by decide +kernel
theorem i151_17 : lk (mi_ins m151) 17 = some (.invokevirtual 57, 3, []) := by decide +kernel
theorem i151_20 : lk (mi_ins m151) 20 = some (.iload_n 1, 1, []) := by decide +kernel
theorem i151_21 : lk (mi_ins m151) 21 = some (.iload 5, 2, []) := by decide +kernel
theorem i151_23 : lk (mi_ins m151) 23 = some (.ishr, 1, []) := by decide +kernel
theorem i151_24 : lk (mi_ins m151) 24 = some (.iconst 1, 1, []) := by decide +kernel
theorem i151_25 : lk (mi_ins m151) 25 = some (.iand, 1, []) := by decide +kernel
theorem i151_26 : lk (mi_ins m151) 26 = some (.ifCond .eq 17, 3, []) := by decide +kernel
theorem i151_29 : lk (mi_ins m151) 29 = some (.aload_n 0, 1, []) := by decide +kernel
theorem i151_30 : lk (mi_ins m151) 30 = some (.getfield 10, 3, []) := by decide +kernel
theorem i151_33 : lk (mi_ins m151) 33 = some (.iload_n 2, 1, []) := by decide +kernel
theorem i151_34 : lk (mi_ins m151) 34 = some (.invokevirtual 61, 3, []) := by decide +kernel
theorem i151_37 : lk (mi_ins m151) 37 = some (.ifCond .eq 6, 3, []) := by decide +kernel
theorem i151_40 : lk (mi_ins m151) 40 = some (.iinc 4 1, 3, []) := by decide +kernel
theorem i151_43 : lk (mi_ins m151) 43 = some (.iinc 5 1, 3, []) := by decide +kernel
theorem i151_46 : lk (mi_ins m151) 46 = some (.goto (-40), 3, []) := by decide +kernel
theorem i151_49 : lk (mi_ins m151) 49 = some (.iload 4, 2, [0, 1, 2, 3, 5]) := by decide +kernel
theorem i151_51 : lk (mi_ins m151) 51 = some (.ireturn, 1, []) := by decide +kernel
theorem i152_0 : lk (mi_ins m152) 0 = some (.iconst 0, 1, []) := by decide +kernel
theorem i152_1 : lk (mi_ins m152) 1 = some (.istore_n 2, 1, []) := by decide +kernel
theorem i152_2 : lk (mi_ins m152) 2 = some (.iload_n 2, 1, [3]) := by decide +kernel
theorem i152_3 : lk (mi_ins m152) 3 = some (.iconst 5, 1, []) := by decide +kernel
theorem i152_4 : lk (mi_ins m152) 4 = some (.if_icmp .ge 40, 3, []) := by decide +kernel
theorem i152_7 : lk (mi_ins m152) 7 = some (.iload_n 1, 1, []) := by decide +kernel
theorem i152_8 : lk (mi_ins m152) 8 = some (.iconst 5, 1, []) := by decide +kernel
theorem i152_9 : lk (mi_ins m152) 9 = some (.imul, 1, []) := by decide +kernel
theorem i152_10 : lk (mi_ins m152) 10 = some (.getstatic 39, 3, []) := by decide +kernel
theorem i152_13 : lk (mi_ins m152) 13 = some (.iload_n 2, 1, []) := by decide +kernel
theorem i152_14 : lk (mi_ins m152) 14 = some (.iaload, 1, []) := by decide +kernel
theorem i152_15 : lk (mi_ins m152) 15 = some (.iadd, 1, []) := by decide +kernel
theorem i152_16 : lk (mi_ins m152) 16 = some (.istore_n 3, 1, []) := by decide +kernel
theorem i152_17 : lk (mi_ins m152) 17 = some (.aload_n 0, 1, []) := by decide +kernel
theorem i152_18 : lk (mi_ins m152) 18 = some (.getfield 11, 3, []) := by decide +kernel
theorem i152_21 : lk (mi_ins m152) 21 = some (.iload_n 3, 1, []) := by decide +kernel
theorem i152_22 : lk (mi_ins m152) 22 = some (.iaload, 1, []) := by decide +kernel
theorem i152_23 : lk (mi_ins m152) 23 = some (.ifCond .le 15, 3, []) := by decide +kernel
theorem i152_26 : lk (mi_ins m152) 26 = some (.aload_n 0, 1, []) := by decide +kernel
theorem i152_27 : lk (mi_ins m152) 27 = some (.getfield 11, 3, []) := by decide +kernel
theorem i152_30 : lk (mi_ins m152) 30 = some (.iload_n 3, 1, []) := by decide +kernel
theorem i152_31 : lk (mi_ins m152) 31 = some (.dup2, 1, []) := by decide +kernel
theorem i152_32 : lk (mi_ins m152) 32 = some (.iaload, 1, []) := by decide +kernel
theorem i152_33 : lk (mi_ins m152) 33 = some (.iconst 1, 1, []) := by decide +kernel
theorem i152_34 : lk (mi_ins m152) 34 = some (.isub, 1, []) := by decide +kernel
theorem i152_35 : lk (mi_ins m152) 35 = some (.iastore, 1, []) := by decide +kernel
theorem i152_36 : lk (mi_ins m152) 36 = some (.iconst 1, 1, []) := by decide +kernel
theorem i152_37 : lk (mi_ins m152) 37 = some (.ireturn, 1, []) := by decide +kernel
theorem i152_38 : lk (mi_ins m152) 38 = some (.iinc 2 1, 3, []) := by decide +kernel
theorem i152_41 : lk (mi_ins m152) 41 = some (.goto (-39), 3, []) := by decide +kernel
theorem i152_44 : lk (mi_ins m152) 44 = some (.iconst 0, 1, [0, 1, 2, 3]) := by decide +kernel
theorem i152_45 : lk (mi_ins m152) 45 = some (.ireturn, 1, []) := by decide +kernel
theorem i153_0 : lk (mi_ins m153) 0 = some (.lload_n 0, 1, []) := by decide +kernel
theorem i153_1 : lk (mi_ins m153) 1 = some (.lload_n 2, 1, []) := by decide +kernel
theorem i153_2 : lk (mi_ins m153) 2 = some (.invokestatic 394, 3, []) := by decide +kernel
theorem i153_5 : lk (mi_ins m153) 5 = some (.lstore 5, 2, []) := by decide +kernel
theorem i153_7 : lk (mi_ins m153) 7 = some (.lload 5, 2, []) := by decide +kernel
theorem i153_9 : lk (mi_ins m153) 9 = some (.lconst 0, 1, []) := by decide +kernel
theorem i153_10 : lk (mi_ins m153) 10 = some (.lcmp, 1, []) := by decide +kernel
theorem i153_11 : lk (mi_ins m153) 11 = some (.ifCond .gt 14, 3, []) := by decide +kernel
theorem i153_14 : lk (mi_ins m153) 14 = some (.iload 4, 2, []) := by decide +kernel
theorem i153_16 : lk (mi_ins m153) 16 = some (.ifCond .eq 7, 3, []) := by decide +kernel
theorem i153_19 : lk (mi_ins m153) 19 = some (.lconst 1, 1, []) := by decide +kernel
theorem i153_20 : lk (mi_ins m153) 20 = some (.goto 4, 3, []) := by decide +kernel
theorem i153_23 : lk (mi_ins m153) 23 = some (.lconst 0, 1, []) := by decide +kernel
theorem i153_24 : lk (mi_ins m153) 24 = some (.lreturn, 1, [0, 1, 2, 3, 4, 5, 6]) := by decide +kernel
theorem i153_25 : lk (mi_ins m153) 25 = some (.iload 4, 2, []) := by decide +kernel
theorem i153_27 : lk (mi_ins m153) 27 = some (.ifCond .eq 7, 3, []) := by decide +kernel
theorem i153_30 : lk (mi_ins m153) 30 = some (.lload_n 2, 1, []) := by decide +kernel
theorem i153_31 : lk (mi_ins m153) 31 = some (.goto 4, 3, []) := by decide +kernel
theorem i153_34 : lk (mi_ins m153) 34 = some (.lload_n 0, 1, []) := by decide +kernel
theorem i153_35 : lk (mi_ins m153) 35 = some (.lload 5, 2, [0, 1, 2, 3, 4, 6]) := by decide +kernel
theorem i153_37 : lk (mi_ins m153) 37 = some (.ldiv, 1, []) := by decide +kernel
theorem i153_38 : lk (mi_ins m153) 38 = some (.lreturn, 1, []) := by decide +kernel
theorem i154_0 : lk (mi_ins m154) 0 = some (.lload_n 0, 1, []) := by decide +kernel
theorem i154_1 : lk (mi_ins m154) 1 = some (.lstore 4, 2, []) := by decide +kernel
theorem i154_3 : lk (mi_ins m154) 3 = some (.lload_n 2, 1, []) := by decide +kernel
theorem i154_4 : lk (mi_ins m154) 4 = some (.lstore 6, 2, []) := by decide +kernel
theorem i154_6 : lk (mi_ins m154) 6 = some (.iconst 0, 1, []) := by decide +kernel
theorem i154_7 : lk (mi_ins m154) 7 = some (.istore 8, 2, []) := by decide +kernel
theorem i154_9 : lk (mi_ins m154) 9 = some (.iload 8, 2, [0, 1, 2, 3, 5, 7, 9, 10]) := by decide +kernel
theorem i154_11 : lk (mi_ins m154) 11 = some (.bipush 100, 2, []) := by decide +kernel
theorem i154_13 : lk (mi_ins m154) 13 = some (.if_icmp .ge 31, 3, []) := by decide +kernel
theorem i154_16 : lk (mi_ins m154) 16 = some (.lload 6, 2, []) := by decide +kernel
theorem i154_18 : lk (mi_ins m154) 18 = some (.lconst 0, 1, []) := by decide +kernel
theorem i154_19 : lk (mi_ins m154) 19 = some (.lcmp, 1, []) := by decide +kernel
theorem i154_20 : lk (mi_ins m154) 20 = some (.ifCond .eq 24, 3, []) := by decide +kernel
theorem i154_23 : lk (mi_ins m154) 23 = some (.lload 4, 2, []) := by decide +kernel
theorem i154_25 : lk (mi_ins m154) 25 = some (.lload 6, 2, []) := by decide +kernel
theorem i154_27 : lk (mi_ins m154) 27 = some (.lrem, 1, []) := by decide +kernel
theorem i154_28 : lk (mi_ins m154) 28 = some (.lstore 9, 2, []) := by decide +kernel
theorem i154_30 : lk (mi_ins m154) 30 = some (.lload 6, 2, []) := by decide +kernel
theorem i154_32 : lk (mi_ins m154) 32 = some (.lstore 4, 2, []) := by decide +kernel
theorem i154_34 : lk (mi_ins m154) 34 = some (.lload 9, 2, []) := by decide +kernel
theorem i154_36 : lk (mi_ins m154) 36 = some (.lstore 6, 2, []) := by decide +kernel
theorem i154_38 : lk (mi_ins m154) 38 = some (.iinc 8 1, 3, []) := by decide +kernel
theorem i154_41 : lk (mi_ins m154) 41 = some (.goto (-32), 3, []) := by decide +kernel
theorem i154_44 : lk (mi_ins m154) 44 = some (.lload 4, 2, [0, 1, 2, 3, 5, 6, 7, 8, 9, 10]) := by decide +kernel
theorem i154_46 : lk (mi_ins m154) 46 = some (.lreturn, 1, []) := by decide +kernel
theorem i155_0 : lk (mi_ins m155) 0 = some (.aload_n 0, 1, []) := by decide +kernel
theorem i155_1 : lk (mi_ins m155) 1 = some (.iload_n 1, 1, []) := by decide +kernel
theorem i155_2 : lk (mi_ins m155) 2 = some (.iload_n 2, 1, []) := by decide +kernel
theorem i155_3 : lk (mi_ins m155) 3 = some (.invokevirtual 300, 3, []) := by decide +kernel
theorem i155_6 : lk (mi_ins m155) 6 = some (.ifCond .eq 7, 3, []) := by decide +kernel
theorem i155_9 : lk (mi_ins m155) 9 = some (.ldc2_w 304, 3, []) := by decide +kernel
theorem i155_12 : lk (mi_ins m155) 12 = some (.lreturn, 1, []) := by decide +kernel
theorem i155_13 : lk (mi_ins m155) 13 = some (.aload_n 0, 1, []) := by decide +kernel
theorem i155_14 : lk (mi_ins m155) 14 = some (.getfield 75, 3, []) := by decide +kernel
theorem i155_17 : lk (mi_ins m155) 17 = some (.aload_n 0, 1, []) := by decide +kernel
theorem i155_18 : lk (mi_ins m155) 18 = some (.getfield 23, 3, []) := by decide +kernel
theorem i155_21 : lk (mi_ins m155) 21 = some (.aload_n 0, 1, []) := by decide +kernel
theorem i155_22 : lk (mi_ins m155) 22 = some (.getfield 30, 3, []) := by decide +kernel
theorem i155_25 : lk (mi_ins m155) 25 = some (.iload_n 1, 1, []) := by decide +kernel
theorem i155_26 : lk (mi_ins m155) 26 = some (.iload_n 2, 1, []) := by decide +kernel
theorem i155_27 : lk (mi_ins m155) 27 = some (.invokevirtual 306, 3, []) := by decide +kernel
theorem i155_30 : lk (mi_ins m155) 30 = some (.aload_n 0, 1, []) := by decide +kernel
theorem i155_31 : lk (mi_ins m155) 31 = some (.getfield 75, 3, []) := by decide +kernel
theorem i155_34 : lk (mi_ins m155) 34 = some (.getfield 321, 3, []) := by decide +kernel
theorem i155_37 : lk (mi_ins m155) 37 = some (.ldc2_w 324, 3, []) := by decide +kernel
theorem i155_40 : lk (mi_ins m155) 40 = some (.aload_n 0, 1, []) := by decide +kernel
theorem i155_41 : lk (mi_ins m155) 41 = some (.getfield 75, 3, []) := by decide +kernel
theorem i155_44 : lk (mi_ins m155) 44 = some (.getfield 314, 3, []) := by decide +kernel
theorem i155_47 : lk (mi_ins m155) 47 = some (.lmul, 1, []) := by decide +kernel
theorem i155_48 : lk (mi_ins m155) 48 = some (.ladd, 1, []) := by decide +kernel
theorem i155_49 : lk (mi_ins m155) 49 = some (.aload_n 0, 1, []) := by decide +kernel
theorem i155_50 : lk (mi_ins m155) 50 = some (.getfield 75, 3, []) := by decide +kernel
theorem i155_53 : lk (mi_ins m155) 53 = some (.getfield 314, 3, []) := by decide +kernel
theorem i155_56 : lk (mi_ins m155) 56 = some (.iload_n 3, 1, []) := by decide +kernel
theorem i155_57 : lk (mi_ins m155) 57 = some (.invokestatic 317, 3, []) := by decide +kernel
theorem i155_60 : lk (mi_ins m155) 60 = some (.lreturn, 1, []) := by decide +kernel
theorem i156_0 : lk (mi_ins m156) 0 = some (.aload_n 0, 1, []) := by decide +kernel
theorem i156_1 : lk (mi_ins m156) 1 = some (.aload_n 0, 1, []) := by decide +kernel
theorem i156_2 : lk (mi_ins m156) 2 = some (.invokevirtual 182, 3, []) := by decide +kernel
theorem i156_5 : lk (mi_ins m156) 5 = some (.iload_n 1, 1, []) := by decide +kernel
theorem i156_6 : lk (mi_ins m156) 6 = some (.iconst 0, 1, []) := by decide +kernel
theorem i156_7 : lk (mi_ins m156) 7 = some (.iconst 4, 1, []) := by decide +kernel
theorem i156_8 : lk (mi_ins m156) 8 = some (.invokestatic 87, 3, []) := by decide +kernel
theorem i156_11 : lk (mi_ins m156) 11 = some (.invokevirtual 91, 3, []) := by decide +kernel
theorem i156_14 : lk (mi_ins m156) 14 = some (.ifCond .eq 5, 3, []) := by decide +kernel
theorem i156_17 : lk (mi_ins m156) 17 = some (.iconst (-1), 1, []) := by decide +kernel
theorem i156_18 : lk (mi_ins m156) 18 = some (.ireturn, 1, []) := by decide +kernel
theorem i156_19 : lk (mi_ins m156) 19 = some (.bipush (-2), 2, []) := by decide +kernel
theorem i156_21 : lk (mi_ins m156) 21 = some (.istore_n 2, 1, []) := by decide +kernel
theorem i156_22 : lk (mi_ins m156) 22 = some (.ldc2_w 304, 3, []) := by decide +kernel
theorem i156_25 : lk (mi_ins m156) 25 = some (.lstore_n 3, 1, []) := by decide +kernel
theorem i156_26 : lk (mi_ins m156) 26 = some (.iconst 0, 1, []) := by decide +kernel
theorem i156_27 : lk (mi_ins m156) 27 = some (.istore 5, 2, []) := by decide +kernel
theorem i156_29 : lk (mi_ins m156) 29 = some (.iload 5, 2, [4]) := by decide +kernel
theorem i156_31 : lk (mi_ins m156) 31 = some (.aload_n 0, 1, []) := by decide +kernel
theorem i156_32 : lk (mi_ins m156) 32 = some (.getfield 23, 3, []) := by decide +kernel
theorem i156_35 : lk (mi_ins m156) 35 = some (.getfield 117, 3, []) := by decide +kernel
theorem i156_38 : lk (mi_ins m156) 38 = some (.if_icmp .ge 62, 3, []) := by decide +kernel
theorem i156_41 : lk (mi_ins m156) 41 = some (.aload_n 0, 1, []) := by decide +kernel
theorem i156_42 : lk (mi_ins m156) 42 = some (.getfield 23, 3, []) := by decide +kernel
theorem i156_45 : lk (mi_ins m156) 45 = some (.iload 5, 2, []) := by decide +kernel
theorem i156_47 : lk (mi_ins m156) 47 = some (.invokevirtual 134, 3, []) := by decide +kernel
theorem i156_50 : lk (mi_ins m156) 50 = some (.ifCond .eq 44, 3, []) := by decide +kernel
theorem i156_53 : lk (mi_ins m156) 53 = some (.aload_n 0, 1, []) := by decide +kernel
theorem i156_54 : lk (mi_ins m156) 54 = some (.getfield 75, 3, []) := by decide +kernel
theorem i156_57 : lk (mi_ins m156) 57 = some (.aload_n 0, 1, []) := by decide +kernel
theorem i156_58 : lk (mi_ins m156) 58 = some (.getfield 23, 3, []) := by decide +kernel
theorem i156_61 : lk (mi_ins m156) 61 = some (.aload_n 0, 1, []) := by decide +kernel
theorem i156_62 : lk (mi_ins m156) 62 = some (.getfield 30, 3, []) := by decide +kernel
theorem i156_65 : lk (mi_ins m156) 65 = some (.iload 5, 2, []) := by decide +kernel
theorem i156_67 : lk (mi_ins m156) 67 = some (.iload_n 1, 1, []) := by decide +kernel
theorem i156_68 : lk (mi_ins m156) 68 = some (.invokevirtual 306, 3, []) := by decide +kernel
theorem i156_71 : lk (mi_ins m156) 71 = some (.aload_n 0, 1, []) := by decide +kernel
theorem i156_72 : lk (mi_ins m156) 72 = some (.getfield 75, 3, []) := by decide +kernel
theorem i156_75 : lk (mi_ins m156) 75 = some (.getfield 310, 3, []) := by decide +kernel
theorem i156_78 : lk (mi_ins m156) 78 = some (.lload_n 3, 1, []) := by decide +kernel
theorem i156_79 : lk (mi_ins m156) 79 = some (.lcmp, 1, []) := by decide +kernel
theorem i156_80 : lk (mi_ins m156) 80 = some (.ifCond .le 14, 3, []) := by decide +kernel
theorem i156_83 : lk (mi_ins m156) 83 = some (.aload_n 0, 1, []) := by decide +kernel
theorem i156_84 : lk (mi_ins m156) 84 = some (.getfield 75, 3, []) := by decide +kernel
theorem i156_87 : lk (mi_ins m156) 87 = some (.getfield 310, 3, []) := by decide +kernel
theorem i156_90 : lk (mi_ins m156) 90 = some (.lstore_n 3, 1, []) := by decide +kernel
theorem i156_91 : lk (mi_ins m156) 91 = some (.iload 5, 2, []) := by decide +kernel
theorem i156_93 : lk (mi_ins m156) 93 = some (.istore_n 2, 1, []) := by decide +kernel
theorem i156_94 : lk (mi_ins m156) 94 = some (.iinc 5 1, 3, [4]) := by decide +kernel
theorem i156_97 : lk (mi_ins m156) 97 = some (.goto (-68), 3, []) := by decide +kernel
theorem i156_100 : lk (mi_ins m156) 100 = some (.iload_n 2, 1, [0, 1, 3, 4, 5]) := by decide +kernel
theorem i156_101 : lk (mi_ins m156) 101 = some (.ireturn, 1, []) := by decide +kernel
theorem i157_0 : lk (mi_ins m157) 0 = some (.aload_n 0, 1, []) := by decide +kernel
theorem i157_1 : lk (mi_ins m157) 1 = some (.iload_n 1, 1, []) := by decide +kernel
theorem i157_2 : lk (mi_ins m157) 2 = some (.iload_n 2, 1, []) := by decide +kernel
theorem i157_3 : lk (mi_ins m157) 3 = some (.invokevirtual 300, 3, []) := by decide +kernel
theorem i157_6 : lk (mi_ins m157) 6 = some (.ifCond .eq 7, 3, []) := by decide +kernel
theorem i157_9 : lk (mi_ins m157) 9 = some (.ldc2_w 304, 3, []) := by decide +kernel
theorem i157_12 : lk (mi_ins m157) 12 = some (.lreturn, 1, []) := by decide +kernel
theorem i157_13 : lk (mi_ins m157) 13 = some (.aload_n 0, 1, []) := by decide +kernel
theorem i157_14 : lk (mi_ins m157) 14 = some (.getfield 75, 3, []) := by decide +kernel
theorem i157_17 : lk (mi_ins m157) 17 = some (.aload_n 0, 1, []) := by decide +kernel
theorem i157_18 : lk (mi_ins m157) 18 = some (.getfield 23, 3, []) := by decide +kernel
theorem i157_21 : lk (mi_ins m157) 21 = some (.aload_n 0, 1, []) := by decide +kernel
theorem i157_22 : lk (mi_ins m157) 22 = some (.getfield 30, 3, []) := by decide +kernel
theorem i157_25 : lk (mi_ins m157) 25 = some (.iload_n 1, 1, []) := by decide +kernel
theorem i157_26 : lk (mi_ins m157) 26 = some (.iload_n 2, 1, []) := by decide +kernel
theorem i157_27 : lk (mi_ins m157) 27 = some (.invokevirtual 306, 3, []) := by decide +kernel
theorem i157_30 : lk (mi_ins m157) 30 = some (.aload_n 0, 1, []) := by decide +kernel
theorem i157_31 : lk (mi_ins m157) 31 = some (.getfield 75, 3, []) := by decide +kernel
theorem i157_34 : lk (mi_ins m157) 34 = some (.getfield 326, 3, []) := by decide +kernel
theorem i157_37 : lk (mi_ins m157) 37 = some (.aload_n 0, 1, []) := by decide +kernel
theorem i157_38 : lk (mi_ins m157) 38 = some (.getfield 75, 3, []) := by decide +kernel
theorem i157_41 : lk (mi_ins m157) 41 = some (.getfield 314, 3, []) := by decide +kernel
theorem i157_44 : lk (mi_ins m157) 44 = some (.iload_n 3, 1, []) := by decide +kernel
theorem i157_45 : lk (mi_ins m157) 45 = some (.invokestatic 317, 3, []) := by decide +kernel
theorem i157_48 : lk (mi_ins m157) 48 = some (.lreturn, 1, []) := by decide +kernel
theorem i158_0 : lk (mi_ins m158) 0 = some (.aload_n 0, 1, []) := by decide +kernel
theorem i158_1 : lk (mi_ins m158) 1 = some (.aload_n 0, 1, []) := by decide +kernel
theorem i158_2 : lk (mi_ins m158) 2 = some (.iload_n 1, 1, []) := by decide +kernel
theorem i158_3 : lk (mi_ins m158) 3 = some (.invokevirtual 126, 3, []) := by decide +kernel
theorem i158_6 : lk (mi_ins m158) 6 = some (.iload_n 2, 1, []) := by decide +kernel
theorem i158_7 : lk (mi_ins m158) 7 = some (.iload_n 3, 1, []) := by decide +kernel
theorem i158_8 : lk (mi_ins m158) 8 = some (.invokestatic 329, 3, []) := by decide +kernel
theorem i158_11 : lk (mi_ins m158) 11 = some (.invokevirtual 91, 3, []) := by decide +kernel
theorem i158_14 : lk (mi_ins m158) 14 = some (.ifCond .eq 5, 3, []) := by decide +kernel
theorem i158_17 : lk (mi_ins m158) 17 = some (.iconst (-1), 1, []) := by decide +kernel
theorem i158_18 : lk (mi_ins m158) 18 = some (.ireturn, 1, []) := by decide +kernel
theorem i158_19 : lk (mi_ins m158) 19 = some (.aload_n 0, 1, []) := by decide +kernel
theorem i158_20 : lk (mi_ins m158) 20 = some (.iload_n 2, 1, []) := by decide +kernel
theorem i158_21 : lk (mi_ins m158) 21 = some (.iload_n 3, 1, []) := by decide +kernel
theorem i158_22 : lk (mi_ins m158) 22 = some (.invokevirtual 332, 3, []) := by decide +kernel
theorem i158_25 : lk (mi_ins m158) 25 = some (.pop, 1, []) := by decide +kernel
theorem i158_26 : lk (mi_ins m158) 26 = some (.aload_n 0, 1, []) := by decide +kernel
theorem i158_27 : lk (mi_ins m158) 27 = some (.getfield 40, 3, []) := by decide +kernel
theorem i158_30 : lk (mi_ins m158) 30 = some (.aload_n 0, 1, []) := by decide +kernel
theorem i158_31 : lk (mi_ins m158) 31 = some (.getfield 23, 3, []) := by decide +kernel
theorem i158_34 : lk (mi_ins m158) 34 = some (.aload_n 0, 1, []) := by decide +kernel
theorem i158_35 : lk (mi_ins m158) 35 = some (.getfield 34, 3, []) := by decide +kernel
theorem i158_38 : lk (mi_ins m158) 38 = some (.invokevirtual 130, 3, []) := by decide +kernel
theorem i158_41 : lk (mi_ins m158) 41 = some (.aload_n 0, 1, []) := by decide +kernel
theorem i158_42 : lk (mi_ins m158) 42 = some (.getfield 40, 3, []) := by decide +kernel
theorem i158_45 : lk (mi_ins m158) 45 = some (.getfield 145, 3, []) := by decide +kernel
theorem i158_48 : lk (mi_ins m158) 48 = some (.iload_n 1, 1, []) := by decide +kernel
theorem i158_49 : lk (mi_ins m158) 49 = some (.iaload, 1, []) := by decide +kernel
theorem i158_50 : lk (mi_ins m158) 50 = some (.sipush 1000, 3, []) := by decide +kernel
theorem i158_53 : lk (mi_ins m158) 53 = some (.iadd, 1, []) := by decide +kernel
theorem i158_54 : lk (mi_ins m158) 54 = some (.ireturn, 1, []) := by decide +kernel
theorem i159_0 : lk (mi_ins m159) 0 = some (.iload_n 0, 1, []) := by decide +kernel
theorem i159_1 : lk (mi_ins m159) 1 = some (.iconst 0, 1, []) := by decide +kernel
theorem i159_2 : lk (mi_ins m159) 2 = some (.ldc_w 349, 3, []) := by decide +kernel
theorem i159_5 : lk (mi_ins m159) 5 = some (.invokestatic 87, 3, []) := by decide +kernel
theorem i159_8 : lk (mi_ins m159) 8 = some (.ifCond .ne 13, 3, []) := by decide +kernel
theorem i159_11 : lk (mi_ins m159) 11 = some (.iload_n 1, 1, []) := by decide +kernel
theorem i159_12 : lk (mi_ins m159) 12 = some (.iconst 0, 1, []) := by decide +kernel
theorem i159_13 : lk (mi_ins m159) 13 = some (.bipush 20, 2, []) := by decide +kernel
theorem i159_15 : lk (mi_ins m159) 15 = some (.invokestatic 87, 3, []) := by decide +kernel
theorem i159_18 : lk (mi_ins m159) 18 = some (.ifCond .eq 7, 3, []) := by decide +kernel
theorem i159_21 : lk (mi_ins m159) 21 = some (.iconst 1, 1, [0, 1]) := by decide +kernel
theorem i159_22 : lk (mi_ins m159) 22 = some (.goto 4, 3, []) := by decide +kernel
theorem i159_25 : lk (mi_ins m159) 25 = some (.iconst 0, 1, []) := by decide +kernel
theorem i159_26 : lk (mi_ins m159) 26 = some (.ireturn, 1, [0, 1]) := by decide +kernel
theorem i160_0 : lk (mi_ins m160) 0 = some (.aload_n 0, 1, []) := by decide +kernel
theorem i160_1 : lk (mi_ins m160) 1 = some (.getfield 34, 3, []) := by decide +kernel
theorem i160_4 : lk (mi_ins m160) 4 = some (.aload_n 0, 1, []) := by decide +kernel
theorem i160_5 : lk (mi_ins m160) 5 = some (.getfield 30, 3, []) := by decide +kernel
theorem i160_8 : lk (mi_ins m160) 8 = some (.invokevirtual 202, 3, []) := by decide +kernel
theorem i160_11 : lk (mi_ins m160) 11 = some (.aload_n 0, 1, []) := by decide +kernel
theorem i160_12 : lk (mi_ins m160) 12 = some (.getfield 34, 3, []) := by decide +kernel
theorem i160_15 : lk (mi_ins m160) 15 = some (.iload_n 1, 1, []) := by decide +kernel
theorem i160_16 : lk (mi_ins m160) 16 = some (.putfield 350, 3, []) := by decide +kernel
theorem i160_19 : lk (mi_ins m160) 19 = some (.iconst 0, 1, []) := by decide +kernel
theorem i160_20 : lk (mi_ins m160) 20 = some (.istore_n 3, 1, []) := by decide +kernel
theorem i160_21 : lk (mi_ins m160) 21 = some (.iconst 0, 1, []) := by decide +kernel
theorem i160_22 : lk (mi_ins m160) 22 = some (.istore 4, 2, []) := by decide +kernel
theorem i160_24 : lk (mi_ins m160) 24 = some (.iload 4, 2, [1]) := by decide +kernel
theorem i160_26 : lk (mi_ins m160) 26 = some (.iload_n 2, 1, []) := by decide +kernel
theorem i160_27 : lk (mi_ins m160) 27 = some (.if_icmp .ge 23, 3, []) := by decide +kernel
theorem i160_30 : lk (mi_ins m160) 30 = some (.iload_n 3, 1, []) := by decide +kernel
theorem i160_31 : lk (mi_ins m160) 31 = some (.aload_n 0, 1, []) := by decide +kernel
theorem i160_32 : lk (mi_ins m160) 32 = some (.getfield 34, 3, []) := by decide +kernel
theorem i160_35 : lk (mi_ins m160) 35 = some (.aload_n 0, 1, []) := by decide +kernel
theorem i160_36 : lk (mi_ins m160) 36 = some (.getfield 23, 3, []) := by decide +kernel
theorem i160_39 : lk (mi_ins m160) 39 = some (.invokevirtual 336, 3, []) := by decide +kernel
theorem i160_42 : lk (mi_ins m160) 42 = some (.iadd, 1, []) := by decide +kernel
theorem i160_43 : lk (mi_ins m160) 43 = some (.istore_n 3, 1, []) := by decide +kernel
theorem i160_44 : lk (mi_ins m160) 44 = some (.iinc 4 1, 3, []) := by decide +kernel
theorem i160_47 : lk (mi_ins m160) 47 = some (.goto (-23), 3, []) := by decide +kernel
theorem i160_50 : lk (mi_ins m160) 50 = some (.iload_n 3, 1, [0, 1, 2, 4]) := by decide +kernel
theorem i160_51 : lk (mi_ins m160) 51 = some (.ireturn, 1, []) := by decide +kernel
theorem i161_0 : lk (mi_ins m161) 0 = some (.aload_n 0, 1, []) := by decide +kernel
theorem i161_1 : lk (mi_ins m161) 1 = some (.invokevirtual 42, 3, []) := by decide +kernel
theorem i161_4 : lk (mi_ins m161) 4 = some (.iconst 0, 1, []) := by decide +kernel
theorem i161_5 : lk (mi_ins m161) 5 = some (.istore_n 2, 1, []) := by decide +kernel
theorem i161_6 : lk (mi_ins m161) 6 = some (.iconst 0, 1, []) := by decide +kernel
theorem i161_7 : lk (mi_ins m161) 7 = some (.istore_n 3, 1, []) := by decide +kernel
theorem i161_8 : lk (mi_ins m161) 8 = some (.iload_n 3, 1, []) := by decide +kernel
theorem i161_9 : lk (mi_ins m161) 9 = some (.aload_n 1, 1, []) := by decide +kernel
theorem i161_10 : lk (mi_ins m161) 10 = some (.getfield 45, 3, []) := by decide +kernel
theorem i161_13 : lk (mi_ins m161) 13 = some (.if_icmp .ge 59, 3, []) := by decide +kernel
theorem i161_16 : lk (mi_ins m161) 16 = some (.aload_n 1, 1, []) := by decide +kernel
theorem i161_17 : lk (mi_ins m161) 17 = some (.iload_n 3, 1, []) := by decide +kernel
theorem i161_18 : lk (mi_ins m161) 18 = some (.invokevirtual 48, 3, []) := by decide +kernel
theorem i161_21 : lk (mi_ins m161) 21 = some (.ifCond .eq 45, 3, []) := by decide +kernel
theorem i161_24 : lk (mi_ins m161) 24 = some (.aload_n 0, 1, []) := by decide +kernel
theorem i161_25 : lk (mi_ins m161) 25 = some (.bipush 75, 2, []) := by decide +kernel
theorem i161_27 : lk (mi_ins m161) 27 = some (.aload_n 0, 1, []) := by decide +kernel
theorem i161_28 : lk (mi_ins m161) 28 = some (.getfield 52, 3, []) := by decide +kernel
theorem i161_31 : lk (mi_ins m161) 31 = some (.imul, 1, []) := by decide +kernel
theorem i161_32 : lk (mi_ins m161) 32 = some (.bipush 74, 2, []) := by decide +kernel
theorem i161_34 : lk (mi_ins m161) 34 = some (.iadd, 1, []) := by decide +kernel
theorem i161_35 : lk (mi_ins m161) 35 = some (.ldc 55, 2, []) := by decide +kernel
theorem i161_37 : lk (mi_ins m161) 37 = some (.irem, 1, []) := by decide +kernel
theorem i161_38 : lk (mi_ins m161) 38 = some (.putfield 52, 3, []) := by decide +kernel
theorem i161_41 : lk (mi_ins m161) 41 = some (.aload_n 0, 1, []) := by decide +kernel
theorem i161_42 : lk (mi_ins m161) 42 = some (.getfield 52, 3, []) := by decide +kernel
theorem i161_45 : lk (mi_ins m161) 45 = some (.bipush 100, 2, []) := by decide +kernel
theorem i161_47 : lk (mi_ins m161) 47 = some (.irem, 1, []) := by decide +kernel
theorem i161_48 : lk (mi_ins m161) 48 = some (.aload_n 1, 1, []) := by decide +kernel
theorem i161_49 : lk (mi_ins m161) 49 = some (.getfield 56, 3, []) := by decide +kernel
theorem i161_52 : lk (mi_ins m161) 52 = some (.if_icmp .ge 14, 3, []) := by decide +kernel
theorem i161_55 : lk (mi_ins m161) 55 = some (.aload_n 0, 1, []) := by decide +kernel
theorem i161_56 : lk (mi_ins m161) 56 = some (.iload_n 3, 1, []) := by decide +kernel
theorem i161_57 : lk (mi_ins m161) 57 = some (.invokevirtual 59, 3, []) := by decide +kernel
theorem i161_60 : lk (mi_ins m161) 60 = some (.ifCond .eq 6, 3, []) := by decide +kernel
theorem i161_63 : lk (mi_ins m161) 63 = some (.iinc 2 1, 3, []) := by decide +kernel
theorem i161_66 : lk (mi_ins m161) 66 = some (.iinc 3 1, 3, []) := by decide +kernel
theorem i161_69 : lk (mi_ins m161) 69 = some (.goto (-61), 3, []) := by decide +kernel
theorem i161_72 : lk (mi_ins m161) 72 = some (.aload_n 0, 1, [1, 3]) := by decide +kernel
theorem i161_73 : lk (mi_ins m161) 73 = some (.dup, 1, []) := by decide +kernel
theorem i161_74 : lk (mi_ins m161) 74 = some (.getfield 62, 3, []) := by decide +kernel
theorem i161_77 : lk (mi_ins m161) 77 = some (.iconst 1, 1, []) := by decide +kernel
theorem i161_78 : lk (mi_ins m161) 78 = some (.iadd, 1, []) := by decide +kernel
theorem i161_79 : lk (mi_ins m161) 79 = some (.putfield 62, 3, []) := by decide +kernel
theorem i161_82 : lk (mi_ins m161) 82 = some (.iload_n 2, 1, []) := by decide +kernel
theorem i161_83 : lk (mi_ins m161) 83 = some (.ireturn, 1, []) := by decide +kernel
theorem i162_0 : lk (mi_ins m162) 0 = some (.aload_n 0, 1, []) := by decide +kernel
theorem i162_1 : lk (mi_ins m162) 1 = some (.aload_n 0, 1, []) := by decide +kernel
theorem i162_2 : lk (mi_ins m162) 2 = some (.invokevirtual 182, 3, []) := by decide +kernel
theorem i162_5 : lk (mi_ins m162) 5 = some (.iload_n 1, 1, []) := by decide +kernel
theorem i162_6 : lk (mi_ins m162) 6 = some (.iload_n 2, 1, []) := by decide +kernel
theorem i162_7 : lk (mi_ins m162) 7 = some (.invokestatic 329, 3, []) := by decide +kernel
theorem i162_10 : lk (mi_ins m162) 10 = some (.invokevirtual 91, 3, []) := by decide +kernel
theorem i162_13 : lk (mi_ins m162) 13 = some (.ifCond .eq 5, 3, []) := by decide +kernel
theorem i162_16 : lk (mi_ins m162) 16 = some (.iconst (-1), 1, []) := by decide +kernel
theorem i162_17 : lk (mi_ins m162) 17 = some (.ireturn, 1, []) := by decide +kernel
theorem i162_18 : lk (mi_ins m162) 18 = some (.aload_n 0, 1, []) := by decide +kernel
theorem i162_19 : lk (mi_ins m162) 19 = some (.iload_n 1, 1, []) := by decide +kernel
theorem i162_20 : lk (mi_ins m162) 20 = some (.iload_n 2, 1, []) := by decide +kernel
theorem i162_21 : lk (mi_ins m162) 21 = some (.invokevirtual 332, 3, []) := by decide +kernel
theorem i162_24 : lk (mi_ins m162) 24 = some (.ireturn, 1, []) := by decide +kernel
theorem i163_0 : lk (mi_ins m163) 0 = some (.aload_n 0, 1, []) := by decide +kernel
theorem i163_1 : lk (mi_ins m163) 1 = some (.aload_n 0, 1, []) := by decide +kernel
theorem i163_2 : lk (mi_ins m163) 2 = some (.invokevirtual 182, 3, []) := by decide +kernel
theorem i163_5 : lk (mi_ins m163) 5 = some (.iload_n 1, 1, []) := by decide +kernel
theorem i163_6 : lk (mi_ins m163) 6 = some (.iload_n 2, 1, []) := by decide +kernel
theorem i163_7 : lk (mi_ins m163) 7 = some (.invokestatic 329, 3, []) := by decide +kernel
theorem i163_10 : lk (mi_ins m163) 10 = some (.invokevirtual 91, 3, []) := by decide +kernel
theorem i163_13 : lk (mi_ins m163) 13 = some (.ifCond .eq 5, 3, []) := by decide +kernel
theorem i163_16 : lk (mi_ins m163) 16 = some (.iconst (-1), 1, []) := by decide +kernel
theorem i163_17 : lk (mi_ins m163) 17 = some (.ireturn, 1, []) := by decide +kernel
theorem i163_18 : lk (mi_ins m163) 18 = some (.aload_n 0, 1, []) := by decide +kernel
theorem i163_19 : lk (mi_ins m163) 19 = some (.iload_n 1, 1, []) := by decide +kernel
theorem i163_20 : lk (mi_ins m163) 20 = some (.iconst 0, 1, []) := by decide +kernel
theorem i163_21 : lk (mi_ins m163) 21 = some (.invokevirtual 332, 3, []) := by decide +kernel
theorem i163_24 : lk (mi_ins m163) 24 = some (.pop, 1, []) := by decide +kernel
theorem i163_25 : lk (mi_ins m163) 25 = some (.iconst 0, 1, []) := by decide +kernel
theorem i163_26 : lk (mi_ins m163) 26 = some (.istore_n 3, 1, []) := by decide +kernel
theorem i163_27 : lk (mi_ins m163) 27 = some (.iload_n 3, 1, [1]) := by decide +kernel
theorem i163_28 : lk (mi_ins m163) 28 = some (.iload_n 2, 1, []) := by decide +kernel
theorem i163_29 : lk (mi_ins m163) 29 = some (.if_icmp .gt 48, 3, []) := by decide +kernel
theorem i163_32 : lk (mi_ins m163) 32 = some (.aload_n 0, 1, []) := by decide +kernel
theorem i163_33 : lk (mi_ins m163) 33 = some (.getfield 40, 3, []) := by decide +kernel
theorem i163_36 : lk (mi_ins m163) 36 = some (.aload_n 0, 1, []) := by decide +kernel
theorem i163_37 : lk (mi_ins m163) 37 = some (.getfield 23, 3, []) := by decide +kernel
theorem i163_40 : lk (mi_ins m163) 40 = some (.aload_n 0, 1, []) := by decide +kernel
theorem i163_41 : lk (mi_ins m163) 41 = some (.getfield 34, 3, []) := by decide +kernel
theorem i163_44 : lk (mi_ins m163) 44 = some (.invokevirtual 130, 3, []) := by decide +kernel
theorem i163_47 : lk (mi_ins m163) 47 = some (.aload_n 0, 1, []) := by decide +kernel
theorem i163_48 : lk (mi_ins m163) 48 = some (.getfield 40, 3, []) := by decide +kernel
theorem i163_51 : lk (mi_ins m163) 51 = some (.invokevirtual 186, 3, []) := by decide +kernel
theorem i163_54 : lk (mi_ins m163) 54 = some (.ifCond .eq 5, 3, []) := by decide +kernel
theorem i163_57 : lk (mi_ins m163) 57 = some (.iload_n 3, 1, []) := by decide +kernel
theorem i163_58 : lk (mi_ins m163) 58 = some (.ireturn, 1, []) := by decide +kernel
theorem i163_59 : lk (mi_ins m163) 59 = some (.aload_n 0, 1, []) := by decide +kernel
theorem i163_60 : lk (mi_ins m163) 60 = some (.getfield 34, 3, []) := by decide +kernel
theorem i163_63 : lk (mi_ins m163) 63 = some (.aload_n 0, 1, []) := by decide +kernel
theorem i163_64 : lk (mi_ins m163) 64 = some (.getfield 23, 3, []) := by decide +kernel
theorem i163_67 : lk (mi_ins m163) 67 = some (.invokevirtual 336, 3, []) := by decide +kernel
theorem i163_70 : lk (mi_ins m163) 70 = some (.pop, 1, []) := by decide +kernel
theorem i163_71 : lk (mi_ins m163) 71 = some (.iinc 3 1, 3, []) := by decide +kernel
theorem i163_74 : lk (mi_ins m163) 74 = some (.goto (-47), 3, []) := by decide +kernel
theorem i163_77 : lk (mi_ins m163) 77 = some (.bipush (-2), 2, [0, 1, 2, 3]) := by decide +kernel
theorem i163_79 : lk (mi_ins m163) 79 = some (.ireturn, 1, []) := by decide +kernel
theorem i164_0 : lk (mi_ins m164) 0 = some (.aload_n 0, 1, []) := by decide +kernel
theorem i164_1 : lk (mi_ins m164) 1 = some (.aload_n 0, 1, []) := by decide +kernel
theorem i164_2 : lk (mi_ins m164) 2 = some (.iload_n 1, 1, []) := by decide +kernel
theorem i164_3 : lk (mi_ins m164) 3 = some (.invokevirtual 256, 3, []) := by decide +kernel
theorem i164_6 : lk (mi_ins m164) 6 = some (.ifCond .ne 11, 3, []) := by decide +kernel
theorem i164_9 : lk (mi_ins m164) 9 = some (.aload_n 0, 1, []) := by decide +kernel
theorem i164_10 : lk (mi_ins m164) 10 = some (.iload_n 2, 1, []) := by decide +kernel
theorem i164_11 : lk (mi_ins m164) 11 = some (.invokevirtual 126, 3, []) := by decide +kernel
theorem i164_14 : lk (mi_ins m164) 14 = some (.ifCond .eq 7, 3, []) := by decide +kernel
theorem i164_17 : lk (mi_ins m164) 17 = some (.iconst 1, 1, [3]) := by decide +kernel
theorem i164_18 : lk (mi_ins m164) 18 = some (.goto 4, 3, []) := by decide +kernel
theorem i164_21 : lk (mi_ins m164) 21 = some (.iconst 0, 1, []) := by decide +kernel
theorem i164_22 : lk (mi_ins m164) 22 = some (.iconst 0, 1, [3]) := by decide +kernel
theorem i164_23 : lk (mi_ins m164) 23 = some (.invokevirtual 91, 3, []) := by decide +kernel
theorem i164_26 : lk (mi_ins m164) 26 = some (.ifCond .eq 5, 3, []) := by decide +kernel
theorem i164_29 : lk (mi_ins m164) 29 = some (.iconst (-1), 1, []) := by decide +kernel
theorem i164_30 : lk (mi_ins m164) 30 = some (.ireturn, 1, []) := by decide +kernel
theorem i164_31 : lk (mi_ins m164) 31 = some (.iload_n 2, 1, []) := by decide +kernel
theorem i164_32 : lk (mi_ins m164) 32 = some (.iconst 5, 1, []) := by decide +kernel
theorem i164_33 : lk (mi_ins m164) 33 = some (.imul, 1, []) := by decide +kernel
theorem i164_34 : lk (mi_ins m164) 34 = some (.aload_n 0, 1, []) := by decide +kernel
theorem i164_35 : lk (mi_ins m164) 35 = some (.getfield 23, 3, []) := by decide +kernel
theorem i164_38 : lk (mi_ins m164) 38 = some (.getfield 340, 3, []) := by decide +kernel
theorem i164_41 : lk (mi_ins m164) 41 = some (.iload_n 1, 1, []) := by decide +kernel
theorem i164_42 : lk (mi_ins m164) 42 = some (.iaload, 1, []) := by decide +kernel
theorem i164_43 : lk (mi_ins m164) 43 = some (.iadd, 1, []) := by decide +kernel
theorem i164_44 : lk (mi_ins m164) 44 = some (.istore_n 3, 1, []) := by decide +kernel
theorem i164_45 : lk (mi_ins m164) 45 = some (.aload_n 0, 1, []) := by decide +kernel
theorem i164_46 : lk (mi_ins m164) 46 = some (.iconst 3, 1, []) := by decide +kernel
theorem i164_47 : lk (mi_ins m164) 47 = some (.aload_n 0, 1, []) := by decide +kernel
theorem i164_48 : lk (mi_ins m164) 48 = some (.getfield 30, 3, []) := by decide +kernel
theorem i164_51 : lk (mi_ins m164) 51 = some (.getfield 158, 3, []) := by decide +kernel
theorem i164_54 : lk (mi_ins m164) 54 = some (.iload_n 3, 1, []) := by decide +kernel
theorem i164_55 : lk (mi_ins m164) 55 = some (.iaload, 1, []) := by decide +kernel
theorem i164_56 : lk (mi_ins m164) 56 = some (.sipush 999, 3, []) := by decide +kernel
theorem i164_59 : lk (mi_ins m164) 59 = some (.if_icmp .lt 7, 3, []) := by decide +kernel
theorem i164_62 : lk (mi_ins m164) 62 = some (.iconst 1, 1, []) := by decide +kernel
theorem i164_63 : lk (mi_ins m164) 63 = some (.goto 4, 3, []) := by decide +kernel
theorem i164_66 : lk (mi_ins m164) 66 = some (.iconst 0, 1, []) := by decide +kernel
theorem i164_67 : lk (mi_ins m164) 67 = some (.invokevirtual 102, 3, [1, 2]) := by decide +kernel
theorem i164_70 : lk (mi_ins m164) 70 = some (.ifCond .eq 5, 3, []) := by decide +kernel
theorem i164_73 : lk (mi_ins m164) 73 = some (.iconst (-1), 1, []) := by decide +kernel
theorem i164_74 : lk (mi_ins m164) 74 = some (.ireturn, 1, []) := by decide +kernel
theorem i164_75 : lk (mi_ins m164) 75 = some (.aload_n 0, 1, []) := by decide +kernel
theorem i164_76 : lk (mi_ins m164) 76 = some (.getfield 47, 3, []) := by decide +kernel
theorem i164_79 : lk (mi_ins m164) 79 = some (.aload_n 0, 1, []) := by decide +kernel
theorem i164_80 : lk (mi_ins m164) 80 = some (.getfield 30, 3, []) := by decide +kernel
theorem i164_83 : lk (mi_ins m164) 83 = some (.invokevirtual 343, 3, []) := by decide +kernel
theorem i164_86 : lk (mi_ins m164) 86 = some (.aload_n 0, 1, []) := by decide +kernel
theorem i164_87 : lk (mi_ins m164) 87 = some (.getfield 30, 3, []) := by decide +kernel
theorem i164_90 : lk (mi_ins m164) 90 = some (.getfield 158, 3, []) := by decide +kernel
theorem i164_93 : lk (mi_ins m164) 93 = some (.iload_n 3, 1, []) := by decide +kernel
theorem i164_94 : lk (mi_ins m164) 94 = some (.dup2, 1, []) := by decide +kernel
theorem i164_95 : lk (mi_ins m164) 95 = some (.iaload, 1, []) := by decide +kernel
theorem i164_96 : lk (mi_ins m164) 96 = some (.iconst 1, 1, []) := by decide +kernel
theorem i164_97 : lk (mi_ins m164) 97 = some (.iadd, 1, []) := by decide +kernel
theorem i164_98 : lk (mi_ins m164) 98 = some (.iastore, 1, []) := by decide +kernel
theorem i164_99 : lk (mi_ins m164) 99 = some (.aload_n 0, 1, []) := by decide +kernel
theorem i164_100 : lk (mi_ins m164) 100 = some (.getfield 30, 3, []) := by decide +kernel
theorem i164_103 : lk (mi_ins m164) 103 = some (.getfield 158, 3, []) := by decide +kernel
theorem i164_106 : lk (mi_ins m164) 106 = some (.iload_n 3, 1, []) := by decide +kernel
theorem i164_107 : lk (mi_ins m164) 107 = some (.iaload, 1, []) := by decide +kernel
theorem i164_108 : lk (mi_ins m164) 108 = some (.ireturn, 1, []) := by decide +kernel
theorem i165_0 : lk (mi_ins m165) 0 = some (.aload_n 1, 1, []) := by decide +kernel
theorem i165_1 : lk (mi_ins m165) 1 = some (.aload_n 0, 1, []) := by decide +kernel
theorem i165_2 : lk (mi_ins m165) 2 = some (.getfield 11, 3, []) := by decide +kernel
theorem i165_5 : lk (mi_ins m165) 5 = some (.aload_n 0, 1, []) := by decide +kernel
theorem i165_6 : lk (mi_ins m165) 6 = some (.getfield 18, 3, []) := by decide +kernel
theorem i165_9 : lk (mi_ins m165) 9 = some (.invokevirtual 28, 3, []) := by decide +kernel
theorem i165_12 : lk (mi_ins m165) 12 = some (.aload_n 0, 1, []) := by decide +kernel
theorem i165_13 : lk (mi_ins m165) 13 = some (.aload_n 0, 1, []) := by decide +kernel
theorem i165_14 : lk (mi_ins m165) 14 = some (.getfield 18, 3, []) := by decide +kernel
theorem i165_17 : lk (mi_ins m165) 17 = some (.iconst 1, 1, []) := by decide +kernel
theorem i165_18 : lk (mi_ins m165) 18 = some (.iadd, 1, []) := by decide +kernel
theorem i165_19 : lk (mi_ins m165) 19 = some (.bipush 16, 2, []) := by decide +kernel
theorem i165_21 : lk (mi_ins m165) 21 = some (.irem, 1, []) := by decide +kernel
theorem i165_22 : lk (mi_ins m165) 22 = some (.putfield 18, 3, []) := by decide +kernel
theorem i165_25 : lk (mi_ins m165) 25 = some (.aload_n 0, 1, []) := by decide +kernel
theorem i165_26 : lk (mi_ins m165) 26 = some (.aload_n 0, 1, []) := by decide +kernel
theorem i165_27 : lk (mi_ins m165) 27 = some (.getfield 22, 3, []) := by decide +kernel
theorem i165_30 : lk (mi_ins m165) 30 = some (.iconst 1, 1, []) := by decide +kernel
theorem i165_31 : lk (mi_ins m165) 31 = some (.iadd, 1, []) := by decide +kernel
theorem i165_32 : lk (mi_ins m165) 32 = some (.bipush 16, 2, []) := by decide +kernel
theorem i165_34 : lk (mi_ins m165) 34 = some (.invokestatic 32, 3, []) := by decide +kernel
theorem i165_37 : lk (mi_ins m165) 37 = some (.putfield 22, 3, []) := by decide +kernel
theorem i165_40 : lk (mi_ins m165) 40 = some (.return_, 1, []) := by decide +kernel
theorem i166_0 : lk (mi_ins m166) 0 = some (.iload_n 2, 1, []) := by decide +kernel
theorem i166_1 : lk (mi_ins m166) 1 = some (.bipush 31, 2, []) := by decide +kernel
theorem i166_3 : lk (mi_ins m166) 3 = some (.imul, 1, []) := by decide +kernel
theorem i166_4 : lk (mi_ins m166) 4 = some (.istore_n 3, 1, []) := by decide +kernel
theorem i166_5 : lk (mi_ins m166) 5 = some (.iload_n 3, 1, []) := by decide +kernel
theorem i166_6 : lk (mi_ins m166) 6 = some (.ifCond .lt 12, 3, []) := by decide +kernel
theorem i166_9 : lk (mi_ins m166) 9 = some (.iload_n 3, 1, []) := by decide +kernel
theorem i166_10 : lk (mi_ins m166) 10 = some (.bipush 31, 2, []) := by decide +kernel
theorem i166_12 : lk (mi_ins m166) 12 = some (.iadd, 1, []) := by decide +kernel
theorem i166_13 : lk (mi_ins m166) 13 = some (.aload_n 1, 1, []) := by decide +kernel
theorem i166_14 : lk (mi_ins m166) 14 = some (.arraylength, 1, []) := by decide +kernel
theorem i166_15 : lk (mi_ins m166) 15 = some (.if_icmp .le 4, 3, []) := by decide +kernel
theorem i166_18 : lk (mi_ins m166) 18 = some (.return_, 1, [0, 1, 2, 3]) := by decide +kernel
theorem i166_19 : lk (mi_ins m166) 19 = some (.aload_n 0, 1, []) := by decide +kernel
theorem i166_20 : lk (mi_ins m166) 20 = some (.getfield 11, 3, []) := by decide +kernel
theorem i166_23 : lk (mi_ins m166) 23 = some (.iconst 0, 1, []) := by decide +kernel
theorem i166_24 : lk (mi_ins m166) 24 = some (.aload_n 1, 1, []) := by decide +kernel
theorem i166_25 : lk (mi_ins m166) 25 = some (.iload_n 3, 1, []) := by decide +kernel
theorem i166_26 : lk (mi_ins m166) 26 = some (.bipush 25, 2, []) := by decide +kernel
theorem i166_28 : lk (mi_ins m166) 28 = some (.invokestatic 65, 3, []) := by decide +kernel
theorem i166_31 : lk (mi_ins m166) 31 = some (.aload_n 0, 1, []) := by decide +kernel
theorem i166_32 : lk (mi_ins m166) 32 = some (.getfield 15, 3, []) := by decide +kernel
theorem i166_35 : lk (mi_ins m166) 35 = some (.iconst 0, 1, []) := by decide +kernel
theorem i166_36 : lk (mi_ins m166) 36 = some (.aload_n 1, 1, []) := by decide +kernel
theorem i166_37 : lk (mi_ins m166) 37 = some (.iload_n 3, 1, []) := by decide +kernel
theorem i166_38 : lk (mi_ins m166) 38 = some (.bipush 25, 2, []) := by decide +kernel
theorem i166_40 : lk (mi_ins m166) 40 = some (.iadd, 1, []) := by decide +kernel
theorem i166_41 : lk (mi_ins m166) 41 = some (.iconst 3, 1, []) := by decide +kernel
theorem i166_42 : lk (mi_ins m166) 42 = some (.invokestatic 65, 3, []) := by decide +kernel
theorem i166_45 : lk (mi_ins m166) 45 = some (.aload_n 1, 1, []) := by decide +kernel
theorem i166_46 : lk (mi_ins m166) 46 = some (.iload_n 3, 1, []) := by decide +kernel
theorem i166_47 : lk (mi_ins m166) 47 = some (.bipush 31, 2, []) := by decide +kernel
theorem i166_49 : lk (mi_ins m166) 49 = some (.iadd, 1, []) := by decide +kernel
theorem i166_50 : lk (mi_ins m166) 50 = some (.iconst 3, 1, []) := by decide +kernel
theorem i166_51 : lk (mi_ins m166) 51 = some (.isub, 1, []) := by decide +kernel
theorem i166_52 : lk (mi_ins m166) 52 = some (.aload_n 0, 1, []) := by decide +kernel
theorem i166_53 : lk (mi_ins m166) 53 = some (.getfield 31, 3, []) := by decide +kernel
theorem i166_56 : lk (mi_ins m166) 56 = some (.iastore, 1, []) := by decide +kernel
theorem i166_57 : lk (mi_ins m166) 57 = some (.aload_n 1, 1, []) := by decide +kernel
theorem i166_58 : lk (mi_ins m166) 58 = some (.iload_n 3, 1, []) := by decide +kernel
theorem i166_59 : lk (mi_ins m166) 59 = some (.bipush 31, 2, []) := by decide +kernel
theorem i166_61 : lk (mi_ins m166) 61 = some (.iadd, 1, []) := by decide +kernel
theorem i166_62 : lk (mi_ins m166) 62 = some (.iconst 2, 1, []) := by decide +kernel
theorem i166_63 : lk (mi_ins m166) 63 = some (.isub, 1, []) := by decide +kernel
theorem i166_64 : lk (mi_ins m166) 64 = some (.aload_n 0, 1, []) := by decide +kernel
theorem i166_65 : lk (mi_ins m166) 65 = some (.getfield 52, 3, []) := by decide +kernel
theorem i166_68 : lk (mi_ins m166) 68 = some (.iastore, 1, []) := by decide +kernel
theorem i166_69 : lk (mi_ins m166) 69 = some (.aload_n 1, 1, []) := by decide +kernel
theorem i166_70 : lk (mi_ins m166) 70 = some (.iload_n 3, 1, []) := by decide +kernel
theorem i166_71 : lk (mi_ins m166) 71 = some (.bipush 31, 2, []) := by decide +kernel
theorem i166_73 : lk (mi_ins m166) 73 = some (.iadd, 1, []) := by decide +kernel
theorem i166_74 : lk (mi_ins m166) 74 = some (.iconst 1, 1, []) := by decide +kernel
theorem i166_75 : lk (mi_ins m166) 75 = some (.isub, 1, []) := by decide +kernel
theorem i166_76 : lk (mi_ins m166) 76 = some (.aload_n 0, 1, []) := by decide +kernel
theorem i166_77 : lk (mi_ins m166) 77 = some (.getfield 62, 3, []) := by decide +kernel
theorem i166_80 : lk (mi_ins m166) 80 = some (.iastore, 1, []) := by decide +kernel
theorem i166_81 : lk (mi_ins m166) 81 = some (.return_, 1, []) := by decide +kernel
theorem i167_0 : lk (mi_ins m167) 0 = some (.aload_n 0, 1, []) := by decide +kernel
theorem i167_1 : lk (mi_ins m167) 1 = some (.aload_n 0, 1, []) := by decide +kernel
theorem i167_2 : lk (mi_ins m167) 2 = some (.iload_n 1, 1, []) := by decide +kernel
theorem i167_3 : lk (mi_ins m167) 3 = some (.invokevirtual 161, 3, []) := by decide +kernel
theorem i167_6 : lk (mi_ins m167) 6 = some (.ifCond .ne 11, 3, []) := by decide +kernel
theorem i167_9 : lk (mi_ins m167) 9 = some (.aload_n 0, 1, []) := by decide +kernel
theorem i167_10 : lk (mi_ins m167) 10 = some (.iload_n 2, 1, []) := by decide +kernel
theorem i167_11 : lk (mi_ins m167) 11 = some (.invokevirtual 126, 3, []) := by decide +kernel
theorem i167_14 : lk (mi_ins m167) 14 = some (.ifCond .eq 7, 3, []) := by decide +kernel
theorem i167_17 : lk (mi_ins m167) 17 = some (.iconst 1, 1, []) := by decide +kernel
theorem i167_18 : lk (mi_ins m167) 18 = some (.goto 4, 3, []) := by decide +kernel
theorem i167_21 : lk (mi_ins m167) 21 = some (.iconst 0, 1, []) := by decide +kernel
theorem i167_22 : lk (mi_ins m167) 22 = some (.iconst 0, 1, []) := by decide +kernel
theorem i167_23 : lk (mi_ins m167) 23 = some (.invokevirtual 91, 3, []) := by decide +kernel
theorem i167_26 : lk (mi_ins m167) 26 = some (.ifCond .ne 29, 3, []) := by decide +kernel
theorem i167_29 : lk (mi_ins m167) 29 = some (.aload_n 0, 1, []) := by decide +kernel
theorem i167_30 : lk (mi_ins m167) 30 = some (.iconst 5, 1, []) := by decide +kernel
theorem i167_31 : lk (mi_ins m167) 31 = some (.aload_n 0, 1, []) := by decide +kernel
theorem i167_32 : lk (mi_ins m167) 32 = some (.getfield 30, 3, []) := by decide +kernel
theorem i167_35 : lk (mi_ins m167) 35 = some (.getfield 167, 3, []) := by decide +kernel
theorem i167_38 : lk (mi_ins m167) 38 = some (.iload_n 1, 1, []) := by decide +kernel
theorem i167_39 : lk (mi_ins m167) 39 = some (.iaload, 1, []) := by decide +kernel
theorem i167_40 : lk (mi_ins m167) 40 = some (.iload_n 2, 1, []) := by decide +kernel
theorem i167_41 : lk (mi_ins m167) 41 = some (.if_icmp .ne 7, 3, []) := by decide +kernel
theorem i167_44 : lk (mi_ins m167) 44 = some (.iconst 1, 1, []) := by decide +kernel
theorem i167_45 : lk (mi_ins m167) 45 = some (.goto 4, 3, []) := by decide +kernel
theorem i167_48 : lk (mi_ins m167) 48 = some (.iconst 0, 1, []) := by decide +kernel
theorem i167_49 : lk (mi_ins m167) 49 = some (.invokevirtual 102, 3, []) := by decide +kernel
theorem i167_52 : lk (mi_ins m167) 52 = some (.ifCond .eq 5, 3, []) := by decide +kernel
theorem i167_55 : lk (mi_ins m167) 55 = some (.iconst 0, 1, [0, 1, 2]) := by decide +kernel
theorem i167_56 : lk (mi_ins m167) 56 = some (.ireturn, 1, []) := by decide +kernel
theorem i167_57 : lk (mi_ins m167) 57 = some (.aload_n 0, 1, []) := by decide +kernel
theorem i167_58 : lk (mi_ins m167) 58 = some (.getfield 47, 3, []) := by decide +kernel
theorem i167_61 : lk (mi_ins m167) 61 = some (.aload_n 0, 1, []) := by decide +kernel
theorem i167_62 : lk (mi_ins m167) 62 = some (.getfield 30, 3, []) := by decide +kernel
theorem i167_65 : lk (mi_ins m167) 65 = some (.invokevirtual 343, 3, []) := by decide +kernel
theorem i167_68 : lk (mi_ins m167) 68 = some (.aload_n 0, 1, []) := by decide +kernel
theorem i167_69 : lk (mi_ins m167) 69 = some (.getfield 30, 3, []) := by decide +kernel
theorem i167_72 : lk (mi_ins m167) 72 = some (.getfield 167, 3, []) := by decide +kernel
theorem i167_75 : lk (mi_ins m167) 75 = some (.iload_n 1, 1, []) := by decide +kernel
theorem i167_76 : lk (mi_ins m167) 76 = some (.iload_n 2, 1, []) := by decide +kernel
theorem i167_77 : lk (mi_ins m167) 77 = some (.iastore, 1, []) := by decide +kernel
theorem i167_78 : lk (mi_ins m167) 78 = some (.iconst 1, 1, []) := by decide +kernel
theorem i167_79 : lk (mi_ins m167) 79 = some (.ireturn, 1, []) := by decide +kernel
theorem i168_0 : lk (mi_ins m168) 0 = some (.aload_n 0, 1, []) := by decide +kernel
theorem i168_1 : lk (mi_ins m168) 1 = some (.aload_n 0, 1, []) := by decide +kernel
theorem i168_2 : lk (mi_ins m168) 2 = some (.iload_n 1, 1, []) := by decide +kernel
theorem i168_3 : lk (mi_ins m168) 3 = some (.invokevirtual 170, 3, []) := by decide +kernel
theorem i168_6 : lk (mi_ins m168) 6 = some (.iconst 0, 1, []) := by decide +kernel
theorem i168_7 : lk (mi_ins m168) 7 = some (.invokevirtual 91, 3, []) := by decide +kernel
theorem i168_10 : lk (mi_ins m168) 10 = some (.ifCond .ne 27, 3, []) := by decide +kernel
theorem i168_13 : lk (mi_ins m168) 13 = some (.aload_n 0, 1, []) := by decide +kernel
theorem i168_14 : lk (mi_ins m168) 14 = some (.iconst 5, 1, []) := by decide +kernel
theorem i168_15 : lk (mi_ins m168) 15 = some (.aload_n 0, 1, []) := by decide +kernel
theorem i168_16 : lk (mi_ins m168) 16 = some (.getfield 30, 3, []) := by decide +kernel
theorem i168_19 : lk (mi_ins m168) 19 = some (.iload_n 1, 1, []) := by decide +kernel
theorem i168_20 : lk (mi_ins m168) 20 = some (.invokevirtual 173, 3, []) := by decide +kernel
theorem i168_23 : lk (mi_ins m168) 23 = some (.ifCond .ne 7, 3, []) := by decide +kernel
theorem i168_26 : lk (mi_ins m168) 26 = some (.iconst 1, 1, []) := by decide +kernel
theorem i168_27 : lk (mi_ins m168) 27 = some (.goto 4, 3, []) := by decide +kernel
theorem i168_30 : lk (mi_ins m168) 30 = some (.iconst 0, 1, []) := by decide +kernel
theorem i168_31 : lk (mi_ins m168) 31 = some (.invokevirtual 102, 3, []) := by decide +kernel
theorem i168_34 : lk (mi_ins m168) 34 = some (.ifCond .eq 5, 3, []) := by decide +kernel
theorem i168_37 : lk (mi_ins m168) 37 = some (.iconst 0, 1, [0, 1]) := by decide +kernel
theorem i168_38 : lk (mi_ins m168) 38 = some (.ireturn, 1, []) := by decide +kernel
theorem i168_39 : lk (mi_ins m168) 39 = some (.aload_n 0, 1, []) := by decide +kernel
theorem i168_40 : lk (mi_ins m168) 40 = some (.getfield 47, 3, []) := by decide +kernel
theorem i168_43 : lk (mi_ins m168) 43 = some (.aload_n 0, 1, []) := by decide +kernel
theorem i168_44 : lk (mi_ins m168) 44 = some (.getfield 30, 3, []) := by decide +kernel
theorem i168_47 : lk (mi_ins m168) 47 = some (.invokevirtual 343, 3, []) := by decide +kernel
theorem i168_50 : lk (mi_ins m168) 50 = some (.aload_n 0, 1, []) := by decide +kernel
theorem i168_51 : lk (mi_ins m168) 51 = some (.getfield 30, 3, []) := by decide +kernel
theorem i168_54 : lk (mi_ins m168) 54 = some (.dup, 1, []) := by decide +kernel
theorem i168_55 : lk (mi_ins m168) 55 = some (.getfield 239, 3, []) := by decide +kernel
theorem i168_58 : lk (mi_ins m168) 58 = some (.iconst 1, 1, []) := by decide +kernel
theorem i168_59 : lk (mi_ins m168) 59 = some (.iload_n 1, 1, []) := by decide +kernel
theorem i168_60 : lk (mi_ins m168) 60 = some (.ishl, 1, []) := by decide +kernel
theorem i168_61 : lk (mi_ins m168) 61 = some (.iconst (-1), 1, []) := by decide +kernel
theorem i168_62 : lk (mi_ins m168) 62 = some (.ixor, 1, []) := by decide +kernel
theorem i168_63 : lk (mi_ins m168) 63 = some (.iand, 1, []) := by decide +kernel
theorem i168_64 : lk (mi_ins m168) 64 = some (.putfield 239, 3, []) := by decide +kernel
theorem i168_67 : lk (mi_ins m168) 67 = some (.iconst 1, 1, []) := by decide +kernel
theorem i168_68 : lk (mi_ins m168) 68 = some (.ireturn, 1, []) := by decide +kernel
theorem i169_0 : lk (mi_ins m169) 0 = some (.aload_n 0, 1, []) := by decide +kernel
theorem i169_1 : lk (mi_ins m169) 1 = some (.aload_n 0, 1, []) := by decide +kernel
theorem i169_2 : lk (mi_ins m169) 2 = some (.iload_n 1, 1, []) := by decide +kernel
theorem i169_3 : lk (mi_ins m169) 3 = some (.invokevirtual 170, 3, []) := by decide +kernel
theorem i169_6 : lk (mi_ins m169) 6 = some (.iconst 0, 1, []) := by decide +kernel
theorem i169_7 : lk (mi_ins m169) 7 = some (.invokevirtual 91, 3, []) := by decide +kernel
theorem i169_10 : lk (mi_ins m169) 10 = some (.ifCond .ne 19, 3, []) := by decide +kernel
theorem i169_13 : lk (mi_ins m169) 13 = some (.aload_n 0, 1, []) := by decide +kernel
theorem i169_14 : lk (mi_ins m169) 14 = some (.iconst 5, 1, []) := by decide +kernel
theorem i169_15 : lk (mi_ins m169) 15 = some (.aload_n 0, 1, []) := by decide +kernel
theorem i169_16 : lk (mi_ins m169) 16 = some (.getfield 30, 3, []) := by decide +kernel
theorem i169_19 : lk (mi_ins m169) 19 = some (.iload_n 1, 1, []) := by decide +kernel
theorem i169_20 : lk (mi_ins m169) 20 = some (.invokevirtual 173, 3, []) := by decide +kernel
theorem i169_23 : lk (mi_ins m169) 23 = some (.invokevirtual 102, 3, []) := by decide +kernel
theorem i169_26 : lk (mi_ins m169) 26 = some (.ifCond .eq 5, 3, []) := by decide +kernel
theorem i169_29 : lk (mi_ins m169) 29 = some (.iconst 0, 1, [0, 1]) := by decide +kernel
theorem i169_30 : lk (mi_ins m169) 30 = some (.ireturn, 1, []) := by decide +kernel
theorem i169_31 : lk (mi_ins m169) 31 = some (.aload_n 0, 1, []) := by decide +kernel
theorem i169_32 : lk (mi_ins m169) 32 = some (.getfield 47, 3, []) := by decide +kernel
theorem i169_35 : lk (mi_ins m169) 35 = some (.aload_n 0, 1, []) := by decide +kernel
theorem i169_36 : lk (mi_ins m169) 36 = some (.getfield 30, 3, []) := by decide +kernel
theorem i169_39 : lk (mi_ins m169) 39 = some (.invokevirtual 343, 3, []) := by decide +kernel
theorem i169_42 : lk (mi_ins m169) 42 = some (.aload_n 0, 1, []) := by decide +kernel
theorem i169_43 : lk (mi_ins m169) 43 = some (.getfield 30, 3, []) := by decide +kernel
theorem i169_46 : lk (mi_ins m169) 46 = some (.dup, 1, []) := by decide +kernel
theorem i169_47 : lk (mi_ins m169) 47 = some (.getfield 239, 3, []) := by decide +kernel
theorem i169_50 : lk (mi_ins m169) 50 = some (.iconst 1, 1, []) := by decide +kernel
theorem i169_51 : lk (mi_ins m169) 51 = some (.iload_n 1, 1, []) := by decide +kernel
theorem i169_52 : lk (mi_ins m169) 52 = some (.ishl, 1, []) := by decide +kernel
theorem i169_53 : lk (mi_ins m169) 53 = some (.ior, 1, []) := by decide +kernel
theorem i169_54 : lk (mi_ins m169) 54 = some (.putfield 239, 3, []) := by decide +kernel
theorem i169_57 : lk (mi_ins m169) 57 = some (.iconst 1, 1, []) := by decide +kernel
theorem i169_58 : lk (mi_ins m169) 58 = some (.ireturn, 1, []) := by decide +kernel
theorem i170_0 : lk (mi_ins m170) 0 = some (.aload_n 0, 1, []) := by decide +kernel
theorem i170_1 : lk (mi_ins m170) 1 = some (.aload_n 0, 1, []) := by decide +kernel
theorem i170_2 : lk (mi_ins m170) 2 = some (.invokevirtual 182, 3, []) := by decide +kernel
theorem i170_5 : lk (mi_ins m170) 5 = some (.iconst 0, 1, []) := by decide +kernel
theorem i170_6 : lk (mi_ins m170) 6 = some (.invokevirtual 91, 3, []) := by decide +kernel
theorem i170_9 : lk (mi_ins m170) 9 = some (.ifCond .ne 29, 3, []) := by decide +kernel
theorem i170_12 : lk (mi_ins m170) 12 = some (.aload_n 0, 1, []) := by decide +kernel
theorem i170_13 : lk (mi_ins m170) 13 = some (.iconst 3, 1, []) := by decide +kernel
theorem i170_14 : lk (mi_ins m170) 14 = some (.aload_n 0, 1, []) := by decide +kernel
theorem i170_15 : lk (mi_ins m170) 15 = some (.getfield 30, 3, []) := by decide +kernel
theorem i170_18 : lk (mi_ins m170) 18 = some (.getfield 346, 3, []) := by decide +kernel
theorem i170_21 : lk (mi_ins m170) 21 = some (.sipush 999, 3, []) := by decide +kernel
theorem i170_24 : lk (mi_ins m170) 24 = some (.if_icmp .lt 7, 3, []) := by decide +kernel
theorem i170_27 : lk (mi_ins m170) 27 = some (.iconst 1, 1, []) := by decide +kernel
theorem i170_28 : lk (mi_ins m170) 28 = some (.goto 4, 3, []) := by decide +kernel
theorem i170_31 : lk (mi_ins m170) 31 = some (.iconst 0, 1, []) := by decide +kernel
theorem i170_32 : lk (mi_ins m170) 32 = some (.invokevirtual 102, 3, []) := by decide +kernel
theorem i170_35 : lk (mi_ins m170) 35 = some (.ifCond .eq 5, 3, []) := by decide +kernel
theorem i170_38 : lk (mi_ins m170) 38 = some (.iconst (-1), 1, [0]) := by decide +kernel
theorem i170_39 : lk (mi_ins m170) 39 = some (.ireturn, 1, []) := by decide +kernel
theorem i170_40 : lk (mi_ins m170) 40 = some (.aload_n 0, 1, []) := by decide +kernel
theorem i170_41 : lk (mi_ins m170) 41 = some (.getfield 47, 3, []) := by decide +kernel
theorem i170_44 : lk (mi_ins m170) 44 = some (.aload_n 0, 1, []) := by decide +kernel
theorem i170_45 : lk (mi_ins m170) 45 = some (.getfield 30, 3, []) := by decide +kernel
theorem i170_48 : lk (mi_ins m170) 48 = some (.invokevirtual 343, 3, []) := by decide +kernel
theorem i170_51 : lk (mi_ins m170) 51 = some (.aload_n 0, 1, []) := by decide +kernel
theorem i170_52 : lk (mi_ins m170) 52 = some (.getfield 30, 3, []) := by decide +kernel
theorem i170_55 : lk (mi_ins m170) 55 = some (.aload_n 0, 1, []) := by decide +kernel
theorem i170_56 : lk (mi_ins m170) 56 = some (.getfield 23, 3, []) := by decide +kernel
theorem i170_59 : lk (mi_ins m170) 59 = some (.invokevirtual 336, 3, []) := by decide +kernel
theorem i170_62 : lk (mi_ins m170) 62 = some (.pop, 1, []) := by decide +kernel
theorem i170_63 : lk (mi_ins m170) 63 = some (.aload_n 0, 1, []) := by decide +kernel
theorem i170_64 : lk (mi_ins m170) 64 = some (.getfield 40, 3, []) := by decide +kernel
theorem i170_67 : lk (mi_ins m170) 67 = some (.aload_n 0, 1, []) := by decide +kernel
theorem i170_68 : lk (mi_ins m170) 68 = some (.getfield 23, 3, []) := by decide +kernel
theorem i170_71 : lk (mi_ins m170) 71 = some (.aload_n 0, 1, []) := by decide +kernel
theorem i170_72 : lk (mi_ins m170) 72 = some (.getfield 30, 3, []) := by decide +kernel
theorem i170_75 : lk (mi_ins m170) 75 = some (.invokevirtual 130, 3, []) := by decide +kernel
theorem i170_78 : lk (mi_ins m170) 78 = some (.aload_n 0, 1, []) := by decide +kernel
theorem i170_79 : lk (mi_ins m170) 79 = some (.getfield 40, 3, []) := by decide +kernel
theorem i170_82 : lk (mi_ins m170) 82 = some (.invokevirtual 186, 3, []) := by decide +kernel
theorem i170_85 : lk (mi_ins m170) 85 = some (.ireturn, 1, []) := by decide +kernel
theorem i171_0 : lk (mi_ins m171) 0 = some (.aload_n 0, 1, []) := by decide +kernel
theorem i171_1 : lk (mi_ins m171) 1 = some (.aload_n 0, 1, []) := by decide +kernel
theorem i171_2 : lk (mi_ins m171) 2 = some (.invokevirtual 182, 3, []) := by decide +kernel
theorem i171_5 : lk (mi_ins m171) 5 = some (.iload_n 1, 1, []) := by decide +kernel
theorem i171_6 : lk (mi_ins m171) 6 = some (.iconst 0, 1, []) := by decide +kernel
theorem i171_7 : lk (mi_ins m171) 7 = some (.ldc_w 349, 3, []) := by decide +kernel
theorem i171_10 : lk (mi_ins m171) 10 = some (.invokestatic 87, 3, []) := by decide +kernel
theorem i171_13 : lk (mi_ins m171) 13 = some (.invokevirtual 91, 3, []) := by decide +kernel
theorem i171_16 : lk (mi_ins m171) 16 = some (.ifCond .eq 5, 3, []) := by decide +kernel
theorem i171_19 : lk (mi_ins m171) 19 = some (.iconst 0, 1, []) := by decide +kernel
theorem i171_20 : lk (mi_ins m171) 20 = some (.ireturn, 1, []) := by decide +kernel
theorem i171_21 : lk (mi_ins m171) 21 = some (.aload_n 0, 1, []) := by decide +kernel
theorem i171_22 : lk (mi_ins m171) 22 = some (.getfield 30, 3, []) := by decide +kernel
theorem i171_25 : lk (mi_ins m171) 25 = some (.iload_n 1, 1, []) := by decide +kernel
theorem i171_26 : lk (mi_ins m171) 26 = some (.putfield 350, 3, []) := by decide +kernel
theorem i171_29 : lk (mi_ins m171) 29 = some (.iconst 1, 1, []) := by decide +kernel
theorem i171_30 : lk (mi_ins m171) 30 = some (.ireturn, 1, []) := by decide +kernel
theorem i172_0 : lk (mi_ins m172) 0 = some (.aload_n 0, 1, []) := by decide +kernel
theorem i172_1 : lk (mi_ins m172) 1 = some (.bipush 6, 2, []) := by decide +kernel
theorem i172_3 : lk (mi_ins m172) 3 = some (.aload_n 0, 1, []) := by decide +kernel
theorem i172_4 : lk (mi_ins m172) 4 = some (.getfield 47, 3, []) := by decide +kernel
theorem i172_7 : lk (mi_ins m172) 7 = some (.getfield 353, 3, []) := by decide +kernel
theorem i172_10 : lk (mi_ins m172) 10 = some (.ifCond .ne 7, 3, []) := by decide +kernel
theorem i172_13 : lk (mi_ins m172) 13 = some (.iconst 1, 1, []) := by decide +kernel
theorem i172_14 : lk (mi_ins m172) 14 = some (.goto 4, 3, []) := by decide +kernel
theorem i172_17 : lk (mi_ins m172) 17 = some (.iconst 0, 1, []) := by decide +kernel
theorem i172_18 : lk (mi_ins m172) 18 = some (.invokevirtual 102, 3, []) := by decide +kernel
theorem i172_21 : lk (mi_ins m172) 21 = some (.ifCond .eq 5, 3, []) := by decide +kernel
theorem i172_24 : lk (mi_ins m172) 24 = some (.iconst 0, 1, []) := by decide +kernel
theorem i172_25 : lk (mi_ins m172) 25 = some (.ireturn, 1, []) := by decide +kernel
theorem i172_26 : lk (mi_ins m172) 26 = some (.aload_n 0, 1, []) := by decide +kernel
theorem i172_27 : lk (mi_ins m172) 27 = some (.getfield 47, 3, []) := by decide +kernel
theorem i172_30 : lk (mi_ins m172) 30 = some (.aload_n 0, 1, []) := by decide +kernel
theorem i172_31 : lk (mi_ins m172) 31 = some (.getfield 30, 3, []) := by decide +kernel
theorem i172_34 : lk (mi_ins m172) 34 = some (.invokevirtual 356, 3, []) := by decide +kernel
theorem i172_37 : lk (mi_ins m172) 37 = some (.iconst 1, 1, []) := by decide +kernel
theorem i172_38 : lk (mi_ins m172) 38 = some (.ireturn, 1, []) := by decide +kernel
theorem i173_0 : lk (mi_ins m173) 0 = some (.aload_n 0, 1, []) := by decide +kernel
theorem i173_1 : lk (mi_ins m173) 1 = some (.aload_n 0, 1, []) := by decide +kernel
theorem i173_2 : lk (mi_ins m173) 2 = some (.getfield 18, 3, []) := by decide +kernel
theorem i173_5 : lk (mi_ins m173) 5 = some (.bipush 16, 2, []) := by decide +kernel
theorem i173_7 : lk (mi_ins m173) 7 = some (.iadd, 1, []) := by decide +kernel
theorem i173_8 : lk (mi_ins m173) 8 = some (.iconst 1, 1, []) := by decide +kernel
theorem i173_9 : lk (mi_ins m173) 9 = some (.isub, 1, []) := by decide +kernel
theorem i173_10 : lk (mi_ins m173) 10 = some (.bipush 16, 2, []) := by decide +kernel
theorem i173_12 : lk (mi_ins m173) 12 = some (.irem, 1, []) := by decide +kernel
theorem i173_13 : lk (mi_ins m173) 13 = some (.putfield 18, 3, []) := by decide +kernel
theorem i173_16 : lk (mi_ins m173) 16 = some (.aload_n 0, 1, []) := by decide +kernel
theorem i173_17 : lk (mi_ins m173) 17 = some (.dup, 1, []) := by decide +kernel
theorem i173_18 : lk (mi_ins m173) 18 = some (.getfield 22, 3, []) := by decide +kernel
theorem i173_21 : lk (mi_ins m173) 21 = some (.iconst 1, 1, []) := by decide +kernel
theorem i173_22 : lk (mi_ins m173) 22 = some (.isub, 1, []) := by decide +kernel
theorem i173_23 : lk (mi_ins m173) 23 = some (.putfield 22, 3, []) := by decide +kernel
theorem i173_26 : lk (mi_ins m173) 26 = some (.aload_n 1, 1, []) := by decide +kernel
theorem i173_27 : lk (mi_ins m173) 27 = some (.aload_n 0, 1, []) := by decide +kernel
theorem i173_28 : lk (mi_ins m173) 28 = some (.getfield 11, 3, []) := by decide +kernel
theorem i173_31 : lk (mi_ins m173) 31 = some (.aload_n 0, 1, []) := by decide +kernel
theorem i173_32 : lk (mi_ins m173) 32 = some (.getfield 18, 3, []) := by decide +kernel
theorem i173_35 : lk (mi_ins m173) 35 = some (.invokevirtual 38, 3, []) := by decide +kernel
theorem i173_38 : lk (mi_ins m173) 38 = some (.return_, 1, []) := by decide +kernel
theorem i174_0 : lk (mi_ins m174) 0 = some (.iload_n 2, 1, []) := by decide +kernel
theorem i174_1 : lk (mi_ins m174) 1 = some (.bipush 31, 2, []) := by decide +kernel
theorem i174_3 : lk (mi_ins m174) 3 = some (.imul, 1, []) := by decide +kernel
theorem i174_4 : lk (mi_ins m174) 4 = some (.istore_n 3, 1, []) := by decide +kernel
theorem i174_5 : lk (mi_ins m174) 5 = some (.iload_n 3, 1, []) := by decide +kernel
theorem i174_6 : lk (mi_ins m174) 6 = some (.ifCond .lt 12, 3, []) := by decide +kernel
theorem i174_9 : lk (mi_ins m174) 9 = some (.iload_n 3, 1, []) := by decide +kernel
theorem i174_10 : lk (mi_ins m174) 10 = some (.bipush 31, 2, []) := by decide +kernel
theorem i174_12 : lk (mi_ins m174) 12 = some (.iadd, 1, []) := by decide +kernel
theorem i174_13 : lk (mi_ins m174) 13 = some (.aload_n 1, 1, []) := by decide +kernel
theorem i174_14 : lk (mi_ins m174) 14 = some (.arraylength, 1, []) := by decide +kernel
theorem i174_15 : lk (mi_ins m174) 15 = some (.if_icmp .le 4, 3, []) := by decide +kernel
theorem i174_18 : lk (mi_ins m174) 18 = some (.return_, 1, [0, 1, 2, 3]) := by decide +kernel
theorem i174_19 : lk (mi_ins m174) 19 = some (.aload_n 1, 1, []) := by decide +kernel
theorem i174_20 : lk (mi_ins m174) 20 = some (.iload_n 3, 1, []) := by decide +kernel
theorem i174_21 : lk (mi_ins m174) 21 = some (.aload_n 0, 1, []) := by decide +kernel
theorem i174_22 : lk (mi_ins m174) 22 = some (.getfield 11, 3, []) := by decide +kernel
theorem i174_25 : lk (mi_ins m174) 25 = some (.iconst 0, 1, []) := by decide +kernel
theorem i174_26 : lk (mi_ins m174) 26 = some (.bipush 25, 2, []) := by decide +kernel
theorem i174_28 : lk (mi_ins m174) 28 = some (.invokestatic 65, 3, []) := by decide +kernel
theorem i174_31 : lk (mi_ins m174) 31 = some (.aload_n 1, 1, []) := by decide +kernel
theorem i174_32 : lk (mi_ins m174) 32 = some (.iload_n 3, 1, []) := by decide +kernel
theorem i174_33 : lk (mi_ins m174) 33 = some (.bipush 25, 2, []) := by decide +kernel
theorem i174_35 : lk (mi_ins m174) 35 = some (.iadd, 1, []) := by decide +kernel
theorem i174_36 : lk (mi_ins m174) 36 = some (.aload_n 0, 1, []) := by decide +kernel
theorem i174_37 : lk (mi_ins m174) 37 = some (.getfield 15, 3, []) := by decide +kernel
theorem i174_40 : lk (mi_ins m174) 40 = some (.iconst 0, 1, []) := by decide +kernel
theorem i174_41 : lk (mi_ins m174) 41 = some (.iconst 3, 1, []) := by decide +kernel
theorem i174_42 : lk (mi_ins m174) 42 = some (.invokestatic 65, 3, []) := by decide +kernel
theorem i174_45 : lk (mi_ins m174) 45 = some (.aload_n 0, 1, []) := by decide +kernel
theorem i174_46 : lk (mi_ins m174) 46 = some (.aload_n 1, 1, []) := by decide +kernel
theorem i174_47 : lk (mi_ins m174) 47 = some (.iload_n 3, 1, []) := by decide +kernel
theorem i174_48 : lk (mi_ins m174) 48 = some (.bipush 31, 2, []) := by decide +kernel
theorem i174_50 : lk (mi_ins m174) 50 = some (.iadd, 1, []) := by decide +kernel
theorem i174_51 : lk (mi_ins m174) 51 = some (.iconst 3, 1, []) := by decide +kernel
theorem i174_52 : lk (mi_ins m174) 52 = some (.isub, 1, []) := by decide +kernel
theorem i174_53 : lk (mi_ins m174) 53 = some (.iaload, 1, []) := by decide +kernel
theorem i174_54 : lk (mi_ins m174) 54 = some (.putfield 31, 3, []) := by decide +kernel
theorem i174_57 : lk (mi_ins m174) 57 = some (.aload_n 0, 1, []) := by decide +kernel
theorem i174_58 : lk (mi_ins m174) 58 = some (.aload_n 1, 1, []) := by decide +kernel
theorem i174_59 : lk (mi_ins m174) 59 = some (.iload_n 3, 1, []) := by decide +kernel
theorem i174_60 : lk (mi_ins m174) 60 = some (.bipush 31, 2, []) := by decide +kernel
theorem i174_62 : lk (mi_ins m174) 62 = some (.iadd, 1, []) := by decide +kernel
theorem i174_63 : lk (mi_ins m174) 63 = some (.iconst 2, 1, []) := by decide +kernel
theorem i174_64 : lk (mi_ins m174) 64 = some (.isub, 1, []) := by decide +kernel
theorem i174_65 : lk (mi_ins m174) 65 = some (.iaload, 1, []) := by decide +kernel
theorem i174_66 : lk (mi_ins m174) 66 = some (.putfield 52, 3, []) := by decide +kernel
theorem i174_69 : lk (mi_ins m174) 69 = some (.aload_n 0, 1, []) := by decide +kernel
theorem i174_70 : lk (mi_ins m174) 70 = some (.aload_n 1, 1, []) := by decide +kernel
theorem i174_71 : lk (mi_ins m174) 71 = some (.iload_n 3, 1, []) := by decide +kernel
theorem i174_72 : lk (mi_ins m174) 72 = some (.bipush 31, 2, []) := by decide +kernel
theorem i174_74 : lk (mi_ins m174) 74 = some (.iadd, 1, []) := by decide +kernel
theorem i174_75 : lk (mi_ins m174) 75 = some (.iconst 1, 1, []) := by decide +kernel
theorem i174_76 : lk (mi_ins m174) 76 = some (.isub, 1, []) := by decide +kernel
theorem i174_77 : lk (mi_ins m174) 77 = some (.iaload, 1, []) := by decide +kernel
theorem i174_78 : lk (mi_ins m174) 78 = some (.putfield 62, 3, []) := by decide +kernel
theorem i174_81 : lk (mi_ins m174) 81 = some (.return_, 1, []) := by decide +kernel
theorem i175_0 : lk (mi_ins m175) 0 = some (.aload_n 0, 1, []) := by decide +kernel
theorem i175_1 : lk (mi_ins m175) 1 = some (.aload_n 0, 1, []) := by decide +kernel
theorem i175_2 : lk (mi_ins m175) 2 = some (.invokevirtual 182, 3, []) := by decide +kernel
theorem i175_5 : lk (mi_ins m175) 5 = some (.iconst 0, 1, []) := by decide +kernel
theorem i175_6 : lk (mi_ins m175) 6 = some (.invokevirtual 91, 3, []) := by decide +kernel
theorem i175_9 : lk (mi_ins m175) 9 = some (.ifCond .ne 27, 3, []) := by decide +kernel
theorem i175_12 : lk (mi_ins m175) 12 = some (.aload_n 0, 1, []) := by decide +kernel
theorem i175_13 : lk (mi_ins m175) 13 = some (.iconst 3, 1, []) := by decide +kernel
theorem i175_14 : lk (mi_ins m175) 14 = some (.aload_n 0, 1, []) := by decide +kernel
theorem i175_15 : lk (mi_ins m175) 15 = some (.getfield 47, 3, []) := by decide +kernel
theorem i175_18 : lk (mi_ins m175) 18 = some (.getfield 359, 3, []) := by decide +kernel
theorem i175_21 : lk (mi_ins m175) 21 = some (.iconst 3, 1, []) := by decide +kernel
theorem i175_22 : lk (mi_ins m175) 22 = some (.if_icmp .lt 7, 3, []) := by decide +kernel
theorem i175_25 : lk (mi_ins m175) 25 = some (.iconst 1, 1, []) := by decide +kernel
theorem i175_26 : lk (mi_ins m175) 26 = some (.goto 4, 3, []) := by decide +kernel
theorem i175_29 : lk (mi_ins m175) 29 = some (.iconst 0, 1, []) := by decide +kernel
theorem i175_30 : lk (mi_ins m175) 30 = some (.invokevirtual 102, 3, []) := by decide +kernel
theorem i175_33 : lk (mi_ins m175) 33 = some (.ifCond .eq 5, 3, []) := by decide +kernel
theorem i175_36 : lk (mi_ins m175) 36 = some (.iconst (-1), 1, [0]) := by decide +kernel
theorem i175_37 : lk (mi_ins m175) 37 = some (.ireturn, 1, []) := by decide +kernel
theorem i175_38 : lk (mi_ins m175) 38 = some (.aload_n 0, 1, []) := by decide +kernel
theorem i175_39 : lk (mi_ins m175) 39 = some (.getfield 47, 3, []) := by decide +kernel
theorem i175_42 : lk (mi_ins m175) 42 = some (.aload_n 0, 1, []) := by decide +kernel
theorem i175_43 : lk (mi_ins m175) 43 = some (.getfield 30, 3, []) := by decide +kernel
theorem i175_46 : lk (mi_ins m175) 46 = some (.invokevirtual 362, 3, []) := by decide +kernel
theorem i175_49 : lk (mi_ins m175) 49 = some (.ireturn, 1, []) := by decide +kernel
theorem i176_0 : lk (mi_ins m176) 0 = some (.aload_n 1, 1, []) := by decide +kernel
theorem i176_1 : lk (mi_ins m176) 1 = some (.aload_n 0, 1, []) := by decide +kernel
theorem i176_2 : lk (mi_ins m176) 2 = some (.getfield 15, 3, []) := by decide +kernel
theorem i176_5 : lk (mi_ins m176) 5 = some (.aload_n 0, 1, []) := by decide +kernel
theorem i176_6 : lk (mi_ins m176) 6 = some (.getfield 25, 3, []) := by decide +kernel
theorem i176_9 : lk (mi_ins m176) 9 = some (.invokevirtual 28, 3, []) := by decide +kernel
theorem i176_12 : lk (mi_ins m176) 12 = some (.aload_n 0, 1, []) := by decide +kernel
theorem i176_13 : lk (mi_ins m176) 13 = some (.dup, 1, []) := by decide +kernel
theorem i176_14 : lk (mi_ins m176) 14 = some (.getfield 25, 3, []) := by decide +kernel
theorem i176_17 : lk (mi_ins m176) 17 = some (.iconst 1, 1, []) := by decide +kernel
theorem i176_18 : lk (mi_ins m176) 18 = some (.iadd, 1, []) := by decide +kernel
theorem i176_19 : lk (mi_ins m176) 19 = some (.putfield 25, 3, []) := by decide +kernel
theorem i176_22 : lk (mi_ins m176) 22 = some (.aload_n 0, 1, []) := by decide +kernel
theorem i176_23 : lk (mi_ins m176) 23 = some (.getfield 25, 3, []) := by decide +kernel
theorem i176_26 : lk (mi_ins m176) 26 = some (.iconst 1, 1, []) := by decide +kernel
theorem i176_27 : lk (mi_ins m176) 27 = some (.isub, 1, []) := by decide +kernel
theorem i176_28 : lk (mi_ins m176) 28 = some (.ireturn, 1, []) := by decide +kernel
theorem i177_0 : lk (mi_ins m177) 0 = some (.aload_n 0, 1, []) := by decide +kernel
theorem i177_1 : lk (mi_ins m177) 1 = some (.iload_n 1, 1, []) := by decide +kernel
theorem i177_2 : lk (mi_ins m177) 2 = some (.iconst 0, 1, []) := by decide +kernel
theorem i177_3 : lk (mi_ins m177) 3 = some (.aload_n 0, 1, []) := by decide +kernel
theorem i177_4 : lk (mi_ins m177) 4 = some (.getfield 47, 3, []) := by decide +kernel
theorem i177_7 : lk (mi_ins m177) 7 = some (.getfield 359, 3, []) := by decide +kernel
theorem i177_10 : lk (mi_ins m177) 10 = some (.iconst 1, 1, []) := by decide +kernel
theorem i177_11 : lk (mi_ins m177) 11 = some (.isub, 1, []) := by decide +kernel
theorem i177_12 : lk (mi_ins m177) 12 = some (.invokestatic 87, 3, []) := by decide +kernel
theorem i177_15 : lk (mi_ins m177) 15 = some (.iconst 0, 1, []) := by decide +kernel
theorem i177_16 : lk (mi_ins m177) 16 = some (.invokevirtual 91, 3, []) := by decide +kernel
theorem i177_19 : lk (mi_ins m177) 19 = some (.ifCond .eq 5, 3, []) := by decide +kernel
theorem i177_22 : lk (mi_ins m177) 22 = some (.iconst 0, 1, []) := by decide +kernel
theorem i177_23 : lk (mi_ins m177) 23 = some (.ireturn, 1, []) := by decide +kernel
theorem i177_24 : lk (mi_ins m177) 24 = some (.aload_n 0, 1, []) := by decide +kernel
theorem i177_25 : lk (mi_ins m177) 25 = some (.getfield 47, 3, []) := by decide +kernel
theorem i177_28 : lk (mi_ins m177) 28 = some (.aload_n 0, 1, []) := by decide +kernel
theorem i177_29 : lk (mi_ins m177) 29 = some (.getfield 30, 3, []) := by decide +kernel
theorem i177_32 : lk (mi_ins m177) 32 = some (.iload_n 1, 1, []) := by decide +kernel
theorem i177_33 : lk (mi_ins m177) 33 = some (.invokevirtual 366, 3, []) := by decide +kernel
theorem i177_36 : lk (mi_ins m177) 36 = some (.iconst 1, 1, []) := by decide +kernel
theorem i177_37 : lk (mi_ins m177) 37 = some (.ireturn, 1, []) := by decide +kernel
theorem i178_0 : lk (mi_ins m178) 0 = some (.aload_n 1, 1, []) := by decide +kernel
theorem i178_1 : lk (mi_ins m178) 1 = some (.aload_n 0, 1, []) := by decide +kernel
theorem i178_2 : lk (mi_ins m178) 2 = some (.getfield 15, 3, []) := by decide +kernel
theorem i178_5 : lk (mi_ins m178) 5 = some (.iload_n 2, 1, []) := by decide +kernel
theorem i178_6 : lk (mi_ins m178) 6 = some (.invokevirtual 38, 3, []) := by decide +kernel
theorem i178_9 : lk (mi_ins m178) 9 = some (.aload_n 0, 1, []) := by decide +kernel
theorem i178_10 : lk (mi_ins m178) 10 = some (.iconst 0, 1, []) := by decide +kernel
theorem i178_11 : lk (mi_ins m178) 11 = some (.putfield 22, 3, []) := by decide +kernel
theorem i178_14 : lk (mi_ins m178) 14 = some (.return_, 1, []) := by decide +kernel
theorem i179_0 : lk (mi_ins m179) 0 = some (.iload_n 1, 1, []) := by decide +kernel
theorem i179_1 : lk (mi_ins m179) 1 = some (.tableswitch 174 0 12 #[67, 75, 83, 91, 99, 107, 115, 126, 137, 145, 153, 161, 169], 67, []) := by decide +kernel
theorem i179_68 : lk (mi_ins m179) 68 = some (.aload_n 0, 1, []) := by decide +kernel
theorem i179_69 : lk (mi_ins m179) 69 = some (.getfield 23, 3, []) := by decide +kernel
theorem i179_72 : lk (mi_ins m179) 72 = some (.getfield 376, 3, []) := by decide +kernel
theorem i179_75 : lk (mi_ins m179) 75 = some (.ireturn, 1, []) := by decide +kernel
theorem i179_76 : lk (mi_ins m179) 76 = some (.aload_n 0, 1, []) := by decide +kernel
theorem i179_77 : lk (mi_ins m179) 77 = some (.getfield 23, 3, []) := by decide +kernel
theorem i179_80 : lk (mi_ins m179) 80 = some (.getfield 117, 3, []) := by decide +kernel
theorem i179_83 : lk (mi_ins m179) 83 = some (.ireturn, 1, []) := by decide +kernel
theorem i179_84 : lk (mi_ins m179) 84 = some (.aload_n 0, 1, []) := by decide +kernel
theorem i179_85 : lk (mi_ins m179) 85 = some (.getfield 23, 3, []) := by decide +kernel
theorem i179_88 : lk (mi_ins m179) 88 = some (.getfield 236, 3, []) := by decide +kernel
theorem i179_91 : lk (mi_ins m179) 91 = some (.ireturn, 1, []) := by decide +kernel
theorem i179_92 : lk (mi_ins m179) 92 = some (.aload_n 0, 1, []) := by decide +kernel
theorem i179_93 : lk (mi_ins m179) 93 = some (.getfield 23, 3, []) := by decide +kernel
theorem i179_96 : lk (mi_ins m179) 96 = some (.getfield 379, 3, []) := by decide +kernel
theorem i179_99 : lk (mi_ins m179) 99 = some (.ireturn, 1, []) := by decide +kernel
theorem i179_100 : lk (mi_ins m179) 100 = some (.aload_n 0, 1, []) := by decide +kernel
theorem i179_101 : lk (mi_ins m179) 101 = some (.getfield 23, 3, []) := by decide +kernel
theorem i179_104 : lk (mi_ins m179) 104 = some (.getfield 280, 3, []) := by decide +kernel
theorem i179_107 : lk (mi_ins m179) 107 = some (.ireturn, 1, []) := by decide +kernel
theorem i179_108 : lk (mi_ins m179) 108 = some (.aload_n 0, 1, []) := by decide +kernel
theorem i179_109 : lk (mi_ins m179) 109 = some (.getfield 23, 3, []) := by decide +kernel
theorem i179_112 : lk (mi_ins m179) 112 = some (.getfield 209, 3, []) := by decide +kernel
theorem i179_115 : lk (mi_ins m179) 115 = some (.ireturn, 1, []) := by decide +kernel
theorem i179_116 : lk (mi_ins m179) 116 = some (.aload_n 0, 1, []) := by decide +kernel
theorem i179_117 : lk (mi_ins m179) 117 = some (.getfield 23, 3, []) := by decide +kernel
theorem i179_120 : lk (mi_ins m179) 120 = some (.getfield 382, 3, []) := by decide +kernel
theorem i179_123 : lk (mi_ins m179) 123 = some (.getfield 386, 3, []) := by decide +kernel
theorem i179_126 : lk (mi_ins m179) 126 = some (.ireturn, 1, []) := by decide +kernel
theorem i179_127 : lk (mi_ins m179) 127 = some (.aload_n 0, 1, []) := by decide +kernel
theorem i179_128 : lk (mi_ins m179) 128 = some (.getfield 23, 3, []) := by decide +kernel
theorem i179_131 : lk (mi_ins m179) 131 = some (.getfield 382, 3, []) := by decide +kernel
theorem i179_134 : lk (mi_ins m179) 134 = some (.getfield 391, 3, []) := by decide +kernel
theorem i179_137 : lk (mi_ins m179) 137 = some (.ireturn, 1, []) := by decide +kernel
theorem i179_138 : lk (mi_ins m179) 138 = some (.aload_n 0, 1, []) := by decide +kernel
theorem i179_139 : lk (mi_ins m179) 139 = some (.getfield 30, 3, []) := by decide +kernel
theorem i179_142 : lk (mi_ins m179) 142 = some (.getfield 346, 3, []) := by decide +kernel
theorem i179_145 : lk (mi_ins m179) 145 = some (.ireturn, 1, []) := by decide +kernel
theorem i179_146 : lk (mi_ins m179) 146 = some (.aload_n 0, 1, []) := by decide +kernel
theorem i179_147 : lk (mi_ins m179) 147 = some (.getfield 30, 3, []) := by decide +kernel
theorem i179_150 : lk (mi_ins m179) 150 = some (.getfield 350, 3, []) := by decide +kernel
theorem i179_153 : lk (mi_ins m179) 153 = some (.ireturn, 1, []) := by decide +kernel
theorem i179_154 : lk (mi_ins m179) 154 = some (.aload_n 0, 1, []) := by decide +kernel
theorem i179_155 : lk (mi_ins m179) 155 = some (.getfield 47, 3, []) := by decide +kernel
theorem i179_158 : lk (mi_ins m179) 158 = some (.getfield 353, 3, []) := by decide +kernel
theorem i179_161 : lk (mi_ins m179) 161 = some (.ireturn, 1, []) := by decide +kernel
theorem i179_162 : lk (mi_ins m179) 162 = some (.aload_n 0, 1, []) := by decide +kernel
theorem i179_163 : lk (mi_ins m179) 163 = some (.getfield 47, 3, []) := by decide +kernel
theorem i179_166 : lk (mi_ins m179) 166 = some (.getfield 359, 3, []) := by decide +kernel
theorem i179_169 : lk (mi_ins m179) 169 = some (.ireturn, 1, []) := by decide +kernel
theorem i179_170 : lk (mi_ins m179) 170 = some (.aload_n 0, 1, []) := by decide +kernel
theorem i179_171 : lk (mi_ins m179) 171 = some (.getfield 79, 3, []) := by decide +kernel
theorem i179_174 : lk (mi_ins m179) 174 = some (.ireturn, 1, []) := by decide +kernel
theorem i179_175 : lk (mi_ins m179) 175 = some (.iconst (-1), 1, []) := by decide +kernel
theorem i179_176 : lk (mi_ins m179) 176 = some (.ireturn, 1, []) := by decide +kernel
theorem i180_0 : lk (mi_ins m180) 0 = some (.aload_n 0, 1, []) := by decide +kernel
theorem i180_1 : lk (mi_ins m180) 1 = some (.getfield 120, 3, []) := by decide +kernel
theorem i180_4 : lk (mi_ins m180) 4 = some (.ireturn, 1, []) := by decide +kernel
theorem i181_0 : lk (mi_ins m181) 0 = some (.aload_n 0, 1, []) := by decide +kernel
theorem i181_1 : lk (mi_ins m181) 1 = some (.getfield 40, 3, []) := by decide +kernel
theorem i181_4 : lk (mi_ins m181) 4 = some (.aload_n 0, 1, []) := by decide +kernel
theorem i181_5 : lk (mi_ins m181) 5 = some (.getfield 23, 3, []) := by decide +kernel
theorem i181_8 : lk (mi_ins m181) 8 = some (.aload_n 0, 1, []) := by decide +kernel
theorem i181_9 : lk (mi_ins m181) 9 = some (.getfield 30, 3, []) := by decide +kernel
theorem i181_12 : lk (mi_ins m181) 12 = some (.invokevirtual 130, 3, []) := by decide +kernel
theorem i181_15 : lk (mi_ins m181) 15 = some (.iload_n 1, 1, []) := by decide +kernel
theorem i181_16 : lk (mi_ins m181) 16 = some (.istore_n 2, 1, []) := by decide +kernel
theorem i181_17 : lk (mi_ins m181) 17 = some (.iconst 0, 1, []) := by decide +kernel
theorem i181_18 : lk (mi_ins m181) 18 = some (.istore_n 3, 1, []) := by decide +kernel
theorem i181_19 : lk (mi_ins m181) 19 = some (.iload_n 3, 1, [1]) := by decide +kernel
theorem i181_20 : lk (mi_ins m181) 20 = some (.aload_n 0, 1, []) := by decide +kernel
theorem i181_21 : lk (mi_ins m181) 21 = some (.getfield 23, 3, []) := by decide +kernel
theorem i181_24 : lk (mi_ins m181) 24 = some (.getfield 117, 3, []) := by decide +kernel
theorem i181_27 : lk (mi_ins m181) 27 = some (.if_icmp .ge 34, 3, []) := by decide +kernel
theorem i181_30 : lk (mi_ins m181) 30 = some (.iload_n 2, 1, []) := by decide +kernel
theorem i181_31 : lk (mi_ins m181) 31 = some (.ifCond .lt 30, 3, []) := by decide +kernel
theorem i181_34 : lk (mi_ins m181) 34 = some (.aload_n 0, 1, []) := by decide +kernel
theorem i181_35 : lk (mi_ins m181) 35 = some (.getfield 40, 3, []) := by decide +kernel
theorem i181_38 : lk (mi_ins m181) 38 = some (.getfield 145, 3, []) := by decide +kernel
theorem i181_41 : lk (mi_ins m181) 41 = some (.iload_n 3, 1, []) := by decide +kernel
theorem i181_42 : lk (mi_ins m181) 42 = some (.iaload, 1, []) := by decide +kernel
theorem i181_43 : lk (mi_ins m181) 43 = some (.ifCond .ge 12, 3, []) := by decide +kernel
theorem i181_46 : lk (mi_ins m181) 46 = some (.iload_n 2, 1, []) := by decide +kernel
theorem i181_47 : lk (mi_ins m181) 47 = some (.ifCond .ne 5, 3, []) := by decide +kernel
theorem i181_50 : lk (mi_ins m181) 50 = some (.iload_n 3, 1, []) := by decide +kernel
theorem i181_51 : lk (mi_ins m181) 51 = some (.ireturn, 1, []) := by decide +kernel
theorem i181_52 : lk (mi_ins m181) 52 = some (.iinc 2 (-1), 3, []) := by decide +kernel
theorem i181_55 : lk (mi_ins m181) 55 = some (.iinc 3 1, 3, [1]) := by decide +kernel
theorem i181_58 : lk (mi_ins m181) 58 = some (.goto (-39), 3, []) := by decide +kernel
theorem i181_61 : lk (mi_ins m181) 61 = some (.new 369, 3, [0, 1, 2, 3]) := by decide +kernel
theorem i182_0 : lk (mi_ins m182) 0 = some (.aload_n 0, 1, []) := by decide +kernel
theorem i182_1 : lk (mi_ins m182) 1 = some (.invokespecial 3, 3, []) := by decide +kernel
theorem i182_4 : lk (mi_ins m182) 4 = some (.aload_n 0, 1, []) := by decide +kernel
theorem i182_5 : lk (mi_ins m182) 5 = some (.iconst (-1), 1, []) := by decide +kernel
theorem i182_6 : lk (mi_ins m182) 6 = some (.putfield 9, 3, []) := by decide +kernel
theorem i182_9 : lk (mi_ins m182) 9 = some (.aload_n 0, 1, []) := by decide +kernel
theorem i182_10 : lk (mi_ins m182) 10 = some (.sipush 1000, 3, []) := by decide +kernel
theorem i182_13 : lk (mi_ins m182) 13 = some (.newarray .byte, 2, []) := by decide +kernel
theorem i182_15 : lk (mi_ins m182) 15 = some (.putfield 13, 3, []) := by decide +kernel
theorem i182_18 : lk (mi_ins m182) 18 = some (.aload_n 0, 1, []) := by decide +kernel
theorem i182_19 : lk (mi_ins m182) 19 = some (.bipush 31, 2, []) := by decide +kernel
theorem i182_21 : lk (mi_ins m182) 21 = some (.newarray .int, 2, []) := by decide +kernel
theorem i182_23 : lk (mi_ins m182) 23 = some (.putfield 17, 3, []) := by decide +kernel
theorem i182_26 : lk (mi_ins m182) 26 = some (.aload_n 0, 1, []) := by decide +kernel
theorem i182_27 : lk (mi_ins m182) 27 = some (.bipush 31, 2, []) := by decide +kernel
theorem i182_29 : lk (mi_ins m182) 29 = some (.newarray .int, 2, []) := by decide +kernel
theorem i182_31 : lk (mi_ins m182) 31 = some (.putfield 21, 3, []) := by decide +kernel
theorem i182_34 : lk (mi_ins m182) 34 = some (.aload_n 0, 1, []) := by decide +kernel
theorem i182_35 : lk (mi_ins m182) 35 = some (.sipush 496, 3, []) := by decide +kernel
theorem i182_38 : lk (mi_ins m182) 38 = some (.newarray .int, 2, []) := by decide +kernel
theorem i182_40 : lk (mi_ins m182) 40 = some (.putfield 24, 3, []) := by decide +kernel
theorem i182_43 : lk (mi_ins m182) 43 = some (.aload_n 0, 1, []) := by decide +kernel
theorem i182_44 : lk (mi_ins m182) 44 = some (.bipush 93, 2, []) := by decide +kernel
theorem i182_46 : lk (mi_ins m182) 46 = some (.newarray .int, 2, []) := by decide +kernel
theorem i182_48 : lk (mi_ins m182) 48 = some (.putfield 27, 3, []) := by decide +kernel
theorem i182_51 : lk (mi_ins m182) 51 = some (.aload_n 0, 1, []) := by decide +kernel
theorem i182_52 : lk (mi_ins m182) 52 = some (.iconst 3, 1, []) := by decide +kernel
theorem i182_53 : lk (mi_ins m182) 53 = some (.newarray .int, 2, []) := by decide +kernel
theorem i182_55 : lk (mi_ins m182) 55 = some (.putfield 30, 3, []) := by decide +kernel
theorem i182_58 : lk (mi_ins m182) 58 = some (.aload_n 0, 1, []) := by decide +kernel
theorem i182_59 : lk (mi_ins m182) 59 = some (.iconst 3, 1, []) := by decide +kernel
theorem i182_60 : lk (mi_ins m182) 60 = some (.newarray .int, 2, []) := by decide +kernel
theorem i182_62 : lk (mi_ins m182) 62 = some (.putfield 33, 3, []) := by decide +kernel
theorem i182_65 : lk (mi_ins m182) 65 = some (.aload_n 0, 1, []) := by decide +kernel
theorem i182_66 : lk (mi_ins m182) 66 = some (.iconst 3, 1, []) := by decide +kernel
theorem i182_67 : lk (mi_ins m182) 67 = some (.newarray .int, 2, []) := by decide +kernel
theorem i182_69 : lk (mi_ins m182) 69 = some (.putfield 36, 3, []) := by decide +kernel
theorem i182_72 : lk (mi_ins m182) 72 = some (.aload_n 0, 1, []) := by decide +kernel
theorem i182_73 : lk (mi_ins m182) 73 = some (.iconst 3, 1, []) := by decide +kernel
theorem i182_74 : lk (mi_ins m182) 74 = some (.newarray .int, 2, []) := by decide +kernel
theorem i182_76 : lk (mi_ins m182) 76 = some (.putfield 39, 3, []) := by decide +kernel
theorem i182_79 : lk (mi_ins m182) 79 = some (.aload_n 0, 1, []) := by decide +kernel
theorem i182_80 : lk (mi_ins m182) 80 = some (.iconst 3, 1, []) := by decide +kernel
theorem i182_81 : lk (mi_ins m182) 81 = some (.newarray .int, 2, []) := by decide +kernel
theorem i182_83 : lk (mi_ins m182) 83 = some (.putfield 42, 3, []) := by decide +kernel
theorem i182_86 : lk (mi_ins m182) 86 = some (.aload_n 0, 1, []) := by decide +kernel
theorem i182_87 : lk (mi_ins m182) 87 = some (.sipush 900, 3, []) := by decide +kernel
theorem i182_90 : lk (mi_ins m182) 90 = some (.newarray .int, 2, []) := by decide +kernel
theorem i182_92 : lk (mi_ins m182) 92 = some (.putfield 45, 3, []) := by decide +kernel
theorem i182_95 : lk (mi_ins m182) 95 = some (.aload_n 0, 1, []) := by decide +kernel
theorem i182_96 : lk (mi_ins m182) 96 = some (.iconst 4, 1, []) := by decide +kernel
theorem i182_97 : lk (mi_ins m182) 97 = some (.newarray .int, 2, []) := by decide +kernel
theorem i182_99 : lk (mi_ins m182) 99 = some (.putfield 48, 3, []) := by decide +kernel
theorem i182_102 : lk (mi_ins m182) 102 = some (.return_, 1, []) := by decide +kernel
theorem i183_0 : lk (mi_ins m183) 0 = some (.aload_n 0, 1, []) := by decide +kernel
theorem i183_1 : lk (mi_ins m183) 1 = some (.getfield 51, 3, []) := by decide +kernel
theorem i183_4 : lk (mi_ins m183) 4 = some (.ireturn, 1, []) := by decide +kernel
theorem i184_0 : lk (mi_ins m184) 0 = some (.aload_n 0, 1, []) := by decide +kernel
theorem i184_1 : lk (mi_ins m184) 1 = some (.iconst 0, 1, []) := by decide +kernel
theorem i184_2 : lk (mi_ins m184) 2 = some (.putfield 51, 3, []) := by decide +kernel
theorem i184_5 : lk (mi_ins m184) 5 = some (.aload_n 0, 1, []) := by decide +kernel
theorem i184_6 : lk (mi_ins m184) 6 = some (.getfield 353, 3, []) := by decide +kernel
theorem i184_9 : lk (mi_ins m184) 9 = some (.bipush 20, 2, []) := by decide +kernel
theorem i184_11 : lk (mi_ins m184) 11 = some (.iadd, 1, []) := by decide +kernel
theorem i184_12 : lk (mi_ins m184) 12 = some (.sipush 1000, 3, []) := by decide +kernel
theorem i184_15 : lk (mi_ins m184) 15 = some (.if_icmp .le 5, 3, []) := by decide +kernel
theorem i184_18 : lk (mi_ins m184) 18 = some (.iconst (-1), 1, []) := by decide +kernel
theorem i184_19 : lk (mi_ins m184) 19 = some (.ireturn, 1, []) := by decide +kernel
theorem i184_20 : lk (mi_ins m184) 20 = some (.iconst 0, 1, []) := by decide +kernel
theorem i184_21 : lk (mi_ins m184) 21 = some (.istore 6, 2, []) := by decide +kernel
theorem i184_23 : lk (mi_ins m184) 23 = some (.iload 6, 2, [7]) := by decide +kernel
theorem i184_25 : lk (mi_ins m184) 25 = some (.bipush 20, 2, []) := by decide +kernel
theorem i184_27 : lk (mi_ins m184) 27 = some (.if_icmp .ge 90, 3, []) := by decide +kernel
theorem i184_30 : lk (mi_ins m184) 30 = some (.iload 6, 2, []) := by decide +kernel
theorem i184_32 : lk (mi_ins m184) 32 = some (.iconst 4, 1, []) := by decide +kernel
theorem i184_33 : lk (mi_ins m184) 33 = some (.if_icmp .ge 7, 3, []) := by decide +kernel
theorem i184_36 : lk (mi_ins m184) 36 = some (.iload_n 1, 1, []) := by decide +kernel
theorem i184_37 : lk (mi_ins m184) 37 = some (.goto 39, 3, []) := by decide +kernel
theorem i184_40 : lk (mi_ins m184) 40 = some (.iload 6, 2, []) := by decide +kernel
theorem i184_42 : lk (mi_ins m184) 42 = some (.bipush 8, 2, []) := by decide +kernel
theorem i184_44 : lk (mi_ins m184) 44 = some (.if_icmp .ge 7, 3, []) := by decide +kernel
theorem i184_47 : lk (mi_ins m184) 47 = some (.iload_n 2, 1, []) := by decide +kernel
theorem i184_48 : lk (mi_ins m184) 48 = some (.goto 28, 3, []) := by decide +kernel
theorem i184_51 : lk (mi_ins m184) 51 = some (.iload 6, 2, []) := by decide +kernel
theorem i184_53 : lk (mi_ins m184) 53 = some (.bipush 12, 2, []) := by decide +kernel
theorem i184_55 : lk (mi_ins m184) 55 = some (.if_icmp .ge 7, 3, []) := by decide +kernel
theorem i184_58 : lk (mi_ins m184) 58 = some (.iload_n 3, 1, []) := by decide +kernel
theorem i184_59 : lk (mi_ins m184) 59 = some (.goto 17, 3, []) := by decide +kernel
theorem i184_62 : lk (mi_ins m184) 62 = some (.iload 6, 2, []) := by decide +kernel
theorem i184_64 : lk (mi_ins m184) 64 = some (.bipush 16, 2, []) := by decide +kernel
theorem i184_66 : lk (mi_ins m184) 66 = some (.if_icmp .ge 8, 3, []) := by decide +kernel
theorem i184_69 : lk (mi_ins m184) 69 = some (.iload 4, 2, []) := by decide +kernel
theorem i184_71 : lk (mi_ins m184) 71 = some (.goto 5, 3, []) := by decide +kernel
theorem i184_74 : lk (mi_ins m184) 74 = some (.iload 5, 2, []) := by decide +kernel
theorem i184_76 : lk (mi_ins m184) 76 = some (.istore 7, 2, [7]) := by decide +kernel
theorem i184_78 : lk (mi_ins m184) 78 = some (.aload_n 0, 1, []) := by decide +kernel
theorem i184_79 : lk (mi_ins m184) 79 = some (.getfield 13, 3, []) := by decide +kernel
theorem i184_82 : lk (mi_ins m184) 82 = some (.aload_n 0, 1, []) := by decide +kernel
theorem i184_83 : lk (mi_ins m184) 83 = some (.getfield 353, 3, []) := by decide +kernel
theorem i184_86 : lk (mi_ins m184) 86 = some (.iload 7, 2, []) := by decide +kernel
theorem i184_88 : lk (mi_ins m184) 88 = some (.bipush 24, 2, []) := by decide +kernel
theorem i184_90 : lk (mi_ins m184) 90 = some (.bipush 8, 2, []) := by decide +kernel
theorem i184_92 : lk (mi_ins m184) 92 = some (.iload 6, 2, []) := by decide +kernel
theorem i184_94 : lk (mi_ins m184) 94 = some (.iconst 4, 1, []) := by decide +kernel
theorem i184_95 : lk (mi_ins m184) 95 = some (.irem, 1, []) := by decide +kernel
theorem i184_96 : lk (mi_ins m184) 96 = some (.imul, 1, []) := by decide +kernel
theorem i184_97 : lk (mi_ins m184) 97 = some (.isub, 1, []) := by decide +kernel
theorem i184_98 : lk (mi_ins m184) 98 = some (.ishr, 1, []) := by decide +kernel
theorem i184_99 : lk (mi_ins m184) 99 = some (.i2b, 1, []) := by decide +kernel
theorem i184_100 : lk (mi_ins m184) 100 = some (.bastore, 1, []) := by decide +kernel
theorem i184_101 : lk (mi_ins m184) 101 = some (.aload_n 0, 1, []) := by decide +kernel
theorem i184_102 : lk (mi_ins m184) 102 = some (.dup, 1, []) := by decide +kernel
theorem i184_103 : lk (mi_ins m184) 103 = some (.getfield 353, 3, []) := by decide +kernel
theorem i184_106 : lk (mi_ins m184) 106 = some (.iconst 1, 1, []) := by decide +kernel
theorem i184_107 : lk (mi_ins m184) 107 = some (.iadd, 1, []) := by decide +kernel
theorem i184_108 : lk (mi_ins m184) 108 = some (.putfield 353, 3, []) := by decide +kernel
theorem i184_111 : lk (mi_ins m184) 111 = some (.iinc 6 1, 3, []) := by decide +kernel
theorem i184_114 : lk (mi_ins m184) 114 = some (.goto (-91), 3, []) := by decide +kernel
theorem i184_117 : lk (mi_ins m184) 117 = some (.aload_n 0, 1, [1, 2, 3, 4, 5, 6, 7]) := by decide +kernel
theorem i184_118 : lk (mi_ins m184) 118 = some (.getfield 353, 3, []) := by decide +kernel
theorem i184_121 : lk (mi_ins m184) 121 = some (.ireturn, 1, []) := by decide +kernel
theorem i185_0 : lk (mi_ins m185) 0 = some (.aload_n 0, 1, []) := by decide +kernel
theorem i185_1 : lk (mi_ins m185) 1 = some (.iconst 0, 1, []) := by decide +kernel
theorem i185_2 : lk (mi_ins m185) 2 = some (.putfield 51, 3, []) := by decide +kernel
theorem i185_5 : lk (mi_ins m185) 5 = some (.iload_n 1, 1, []) := by decide +kernel
theorem i185_6 : lk (mi_ins m185) 6 = some (.ifCond .lt 11, 3, []) := by decide +kernel
theorem i185_9 : lk (mi_ins m185) 9 = some (.iload_n 1, 1, []) := by decide +kernel
theorem i185_10 : lk (mi_ins m185) 10 = some (.aload_n 0, 1, []) := by decide +kernel
theorem i185_11 : lk (mi_ins m185) 11 = some (.getfield 353, 3, []) := by decide +kernel
theorem i185_14 : lk (mi_ins m185) 14 = some (.if_icmp .le 9, 3, []) := by decide +kernel
theorem i185_17 : lk (mi_ins m185) 17 = some (.aload_n 0, 1, [1, 2]) := by decide +kernel
theorem i185_18 : lk (mi_ins m185) 18 = some (.iconst 2, 1, []) := by decide +kernel
theorem i185_19 : lk (mi_ins m185) 19 = some (.invokevirtual 57, 3, []) := by decide +kernel
theorem i185_22 : lk (mi_ins m185) 22 = some (.ireturn, 1, []) := by decide +kernel
theorem i185_23 : lk (mi_ins m185) 23 = some (.aload_n 0, 1, []) := by decide +kernel
theorem i185_24 : lk (mi_ins m185) 24 = some (.iload_n 1, 1, []) := by decide +kernel
theorem i185_25 : lk (mi_ins m185) 25 = some (.putfield 68, 3, []) := by decide +kernel
theorem i185_28 : lk (mi_ins m185) 28 = some (.aload_n 0, 1, []) := by decide +kernel
theorem i185_29 : lk (mi_ins m185) 29 = some (.iconst 0, 1, []) := by decide +kernel
theorem i185_30 : lk (mi_ins m185) 30 = some (.putfield 353, 3, []) := by decide +kernel
theorem i185_33 : lk (mi_ins m185) 33 = some (.aload_n 0, 1, []) := by decide +kernel
theorem i185_34 : lk (mi_ins m185) 34 = some (.iconst 0, 1, []) := by decide +kernel
theorem i185_35 : lk (mi_ins m185) 35 = some (.putfield 86, 3, []) := by decide +kernel
theorem i185_38 : lk (mi_ins m185) 38 = some (.aload_n 0, 1, []) := by decide +kernel
theorem i185_39 : lk (mi_ins m185) 39 = some (.iconst 0, 1, []) := by decide +kernel
theorem i185_40 : lk (mi_ins m185) 40 = some (.putfield 109, 3, []) := by decide +kernel
theorem i185_43 : lk (mi_ins m185) 43 = some (.aload_n 0, 1, []) := by decide +kernel
theorem i185_44 : lk (mi_ins m185) 44 = some (.new 165, 3, []) := by decide +kernel
theorem i185_47 : lk (mi_ins m185) 47 = some (.dup, 1, []) := by decide +kernel
theorem i185_48 : lk (mi_ins m185) 48 = some (.invokespecial 356, 3, []) := by decide +kernel
theorem i185_51 : lk (mi_ins m185) 51 = some (.putfield 160, 3, []) := by decide +kernel
theorem i185_54 : lk (mi_ins m185) 54 = some (.aload_n 0, 1, []) := by decide +kernel
theorem i185_55 : lk (mi_ins m185) 55 = some (.iconst 0, 1, []) := by decide +kernel
theorem i185_56 : lk (mi_ins m185) 56 = some (.putfield 83, 3, []) := by decide +kernel
theorem i185_59 : lk (mi_ins m185) 59 = some (.aload_n 0, 1, []) := by decide +kernel
theorem i185_60 : lk (mi_ins m185) 60 = some (.invokevirtual 119, 3, []) := by decide +kernel
theorem i185_63 : lk (mi_ins m185) 63 = some (.aload_n 0, 1, []) := by decide +kernel
theorem i185_64 : lk (mi_ins m185) 64 = some (.invokevirtual 357, 3, []) := by decide +kernel
theorem i185_67 : lk (mi_ins m185) 67 = some (.aload_n 0, 1, []) := by decide +kernel
theorem i185_68 : lk (mi_ins m185) 68 = some (.getfield 109, 3, []) := by decide +kernel
theorem i185_71 : lk (mi_ins m185) 71 = some (.ifCond .le 18, 3, []) := by decide +kernel
theorem i185_74 : lk (mi_ins m185) 74 = some (.aload_n 0, 1, []) := by decide +kernel
theorem i185_75 : lk (mi_ins m185) 75 = some (.iconst 4, 1, []) := by decide +kernel
theorem i185_76 : lk (mi_ins m185) 76 = some (.putfield 54, 3, []) := by decide +kernel
theorem i185_79 : lk (mi_ins m185) 79 = some (.aload_n 0, 1, []) := by decide +kernel
theorem i185_80 : lk (mi_ins m185) 80 = some (.aload_n 0, 1, []) := by decide +kernel
theorem i185_81 : lk (mi_ins m185) 81 = some (.getfield 112, 3, []) := by decide +kernel
theorem i185_84 : lk (mi_ins m185) 84 = some (.putfield 9, 3, []) := by decide +kernel
theorem i185_87 : lk (mi_ins m185) 87 = some (.iconst (-1), 1, []) := by decide +kernel
theorem i185_88 : lk (mi_ins m185) 88 = some (.ireturn, 1, []) := by decide +kernel
theorem i185_89 : lk (mi_ins m185) 89 = some (.aload_n 0, 1, []) := by decide +kernel
theorem i185_90 : lk (mi_ins m185) 90 = some (.aload_n 0, 1, []) := by decide +kernel
theorem i185_91 : lk (mi_ins m185) 91 = some (.getfield 160, 3, []) := by decide +kernel
theorem i185_94 : lk (mi_ins m185) 94 = some (.putfield 360, 3, []) := by decide +kernel
theorem i185_97 : lk (mi_ins m185) 97 = some (.aload_n 0, 1, []) := by decide +kernel
theorem i185_98 : lk (mi_ins m185) 98 = some (.iconst 0, 1, []) := by decide +kernel
theorem i185_99 : lk (mi_ins m185) 99 = some (.invokevirtual 362, 3, []) := by decide +kernel
theorem i185_102 : lk (mi_ins m185) 102 = some (.iconst 0, 1, []) := by decide +kernel
theorem i185_103 : lk (mi_ins m185) 103 = some (.istore_n 2, 1, []) := by decide +kernel
theorem i185_104 : lk (mi_ins m185) 104 = some (.iload_n 2, 1, [1]) := by decide +kernel
theorem i185_105 : lk (mi_ins m185) 105 = some (.bipush 31, 2, []) := by decide +kernel
theorem i185_107 : lk (mi_ins m185) 107 = some (.if_icmp .ge 21, 3, []) := by decide +kernel
theorem i185_110 : lk (mi_ins m185) 110 = some (.aload_n 0, 1, []) := by decide +kernel
theorem i185_111 : lk (mi_ins m185) 111 = some (.getfield 17, 3, []) := by decide +kernel
theorem i185_114 : lk (mi_ins m185) 114 = some (.iload_n 2, 1, []) := by decide +kernel
theorem i185_115 : lk (mi_ins m185) 115 = some (.aload_n 0, 1, []) := by decide +kernel
theorem i185_116 : lk (mi_ins m185) 116 = some (.getfield 21, 3, []) := by decide +kernel
theorem i185_119 : lk (mi_ins m185) 119 = some (.iload_n 2, 1, []) := by decide +kernel
theorem i185_120 : lk (mi_ins m185) 120 = some (.iaload, 1, []) := by decide +kernel
theorem i185_121 : lk (mi_ins m185) 121 = some (.iastore, 1, []) := by decide +kernel
theorem i185_122 : lk (mi_ins m185) 122 = some (.iinc 2 1, 3, []) := by decide +kernel
theorem i185_125 : lk (mi_ins m185) 125 = some (.goto (-21), 3, []) := by decide +kernel
theorem i185_128 : lk (mi_ins m185) 128 = some (.aload_n 0, 1, [1, 2]) := by decide +kernel
theorem i185_129 : lk (mi_ins m185) 129 = some (.iconst 0, 1, []) := by decide +kernel
theorem i185_130 : lk (mi_ins m185) 130 = some (.putfield 365, 3, []) := by decide +kernel
theorem i185_133 : lk (mi_ins m185) 133 = some (.aload_n 0, 1, []) := by decide +kernel
theorem i185_134 : lk (mi_ins m185) 134 = some (.iconst 0, 1, []) := by decide +kernel
theorem i185_135 : lk (mi_ins m185) 135 = some (.putfield 368, 3, []) := by decide +kernel
theorem i185_138 : lk (mi_ins m185) 138 = some (.aload_n 0, 1, []) := by decide +kernel
theorem i185_139 : lk (mi_ins m185) 139 = some (.aload_n 0, 1, []) := by decide +kernel
theorem i185_140 : lk (mi_ins m185) 140 = some (.getfield 360, 3, []) := by decide +kernel
theorem i185_143 : lk (mi_ins m185) 143 = some (.getfield 209, 3, []) := by decide +kernel
theorem i185_146 : lk (mi_ins m185) 146 = some (.invokevirtual 61, 3, []) := by decide +kernel
theorem i185_149 : lk (mi_ins m185) 149 = some (.ireturn, 1, []) := by decide +kernel
theorem i186_0 : lk (mi_ins m186) 0 = some (.aload_n 0, 1, []) := by decide +kernel
theorem i186_1 : lk (mi_ins m186) 1 = some (.iload_n 1, 1, []) := by decide +kernel
theorem i186_2 : lk (mi_ins m186) 2 = some (.putfield 54, 3, []) := by decide +kernel
theorem i186_5 : lk (mi_ins m186) 5 = some (.aload_n 0, 1, []) := by decide +kernel
theorem i186_6 : lk (mi_ins m186) 6 = some (.iconst (-1), 1, []) := by decide +kernel
theorem i186_7 : lk (mi_ins m186) 7 = some (.putfield 9, 3, []) := by decide +kernel
theorem i186_10 : lk (mi_ins m186) 10 = some (.iconst (-1), 1, []) := by decide +kernel
theorem i186_11 : lk (mi_ins m186) 11 = some (.ireturn, 1, []) := by decide +kernel
theorem i187_0 : lk (mi_ins m187) 0 = some (.aload_n 0, 1, []) := by decide +kernel
theorem i187_1 : lk (mi_ins m187) 1 = some (.invokespecial 3, 3, []) := by decide +kernel
theorem i187_4 : lk (mi_ins m187) 4 = some (.aload_n 0, 1, []) := by decide +kernel
theorem i187_5 : lk (mi_ins m187) 5 = some (.iconst (-1), 1, []) := by decide +kernel
theorem i187_6 : lk (mi_ins m187) 6 = some (.putfield 9, 3, []) := by decide +kernel
theorem i187_9 : lk (mi_ins m187) 9 = some (.aload_n 0, 1, []) := by decide +kernel
theorem i187_10 : lk (mi_ins m187) 10 = some (.iconst 5, 1, []) := by decide +kernel
theorem i187_11 : lk (mi_ins m187) 11 = some (.newarray .int, 2, []) := by decide +kernel
theorem i187_13 : lk (mi_ins m187) 13 = some (.putfield 15, 3, []) := by decide +kernel
theorem i187_16 : lk (mi_ins m187) 16 = some (.aload_n 0, 1, []) := by decide +kernel
theorem i187_17 : lk (mi_ins m187) 17 = some (.iconst 5, 1, []) := by decide +kernel
theorem i187_18 : lk (mi_ins m187) 18 = some (.newarray .int, 2, []) := by decide +kernel
theorem i187_20 : lk (mi_ins m187) 20 = some (.putfield 19, 3, []) := by decide +kernel
theorem i187_23 : lk (mi_ins m187) 23 = some (.aload_n 0, 1, []) := by decide +kernel
theorem i187_24 : lk (mi_ins m187) 24 = some (.bipush 25, 2, []) := by decide +kernel
theorem i187_26 : lk (mi_ins m187) 26 = some (.newarray .int, 2, []) := by decide +kernel
theorem i187_28 : lk (mi_ins m187) 28 = some (.putfield 22, 3, []) := by decide +kernel
theorem i187_31 : lk (mi_ins m187) 31 = some (.aload_n 0, 1, []) := by decide +kernel
theorem i187_32 : lk (mi_ins m187) 32 = some (.iconst 5, 1, []) := by decide +kernel
theorem i187_33 : lk (mi_ins m187) 33 = some (.newarray .int, 2, []) := by decide +kernel
theorem i187_35 : lk (mi_ins m187) 35 = some (.putfield 25, 3, []) := by decide +kernel
theorem i187_38 : lk (mi_ins m187) 38 = some (.aload_n 0, 1, []) := by decide +kernel
theorem i187_39 : lk (mi_ins m187) 39 = some (.iconst 5, 1, []) := by decide +kernel
theorem i187_40 : lk (mi_ins m187) 40 = some (.newarray .int, 2, []) := by decide +kernel
theorem i187_42 : lk (mi_ins m187) 42 = some (.putfield 28, 3, []) := by decide +kernel
theorem i187_45 : lk (mi_ins m187) 45 = some (.aload_n 0, 1, []) := by decide +kernel
theorem i187_46 : lk (mi_ins m187) 46 = some (.iconst 5, 1, []) := by decide +kernel
theorem i187_47 : lk (mi_ins m187) 47 = some (.newarray .int, 2, []) := by decide +kernel
theorem i187_49 : lk (mi_ins m187) 49 = some (.putfield 31, 3, []) := by decide +kernel
theorem i187_52 : lk (mi_ins m187) 52 = some (.aload_n 0, 1, []) := by decide +kernel
theorem i187_53 : lk (mi_ins m187) 53 = some (.iconst 3, 1, []) := by decide +kernel
theorem i187_54 : lk (mi_ins m187) 54 = some (.newarray .int, 2, []) := by decide +kernel
theorem i187_56 : lk (mi_ins m187) 56 = some (.putfield 34, 3, []) := by decide +kernel
theorem i187_59 : lk (mi_ins m187) 59 = some (.aload_n 0, 1, []) := by decide +kernel
theorem i187_60 : lk (mi_ins m187) 60 = some (.iconst 3, 1, []) := by decide +kernel
theorem i187_61 : lk (mi_ins m187) 61 = some (.newarray .int, 2, []) := by decide +kernel
theorem i187_63 : lk (mi_ins m187) 63 = some (.putfield 37, 3, []) := by decide +kernel
theorem i187_66 : lk (mi_ins m187) 66 = some (.aload_n 0, 1, []) := by decide +kernel
theorem i187_67 : lk (mi_ins m187) 67 = some (.iconst 3, 1, []) := by decide +kernel
theorem i187_68 : lk (mi_ins m187) 68 = some (.newarray .int, 2, []) := by decide +kernel
theorem i187_70 : lk (mi_ins m187) 70 = some (.putfield 40, 3, []) := by decide +kernel
theorem i187_73 : lk (mi_ins m187) 73 = some (.aload_n 0, 1, []) := by decide +kernel
theorem i187_74 : lk (mi_ins m187) 74 = some (.iconst 3, 1, []) := by decide +kernel
theorem i187_75 : lk (mi_ins m187) 75 = some (.newarray .int, 2, []) := by decide +kernel
theorem i187_77 : lk (mi_ins m187) 77 = some (.putfield 43, 3, []) := by decide +kernel
theorem i187_80 : lk (mi_ins m187) 80 = some (.aload_n 0, 1, []) := by decide +kernel
theorem i187_81 : lk (mi_ins m187) 81 = some (.iconst 4, 1, []) := by decide +kernel
theorem i187_82 : lk (mi_ins m187) 82 = some (.newarray .int, 2, []) := by decide +kernel
theorem i187_84 : lk (mi_ins m187) 84 = some (.putfield 46, 3, []) := by decide +kernel
theorem i187_87 : lk (mi_ins m187) 87 = some (.aload_n 0, 1, []) := by decide +kernel
theorem i187_88 : lk (mi_ins m187) 88 = some (.iconst 4, 1, []) := by decide +kernel
theorem i187_89 : lk (mi_ins m187) 89 = some (.newarray .int, 2, []) := by decide +kernel
theorem i187_91 : lk (mi_ins m187) 91 = some (.putfield 49, 3, []) := by decide +kernel
theorem i187_94 : lk (mi_ins m187) 94 = some (.aload_n 0, 1, []) := by decide +kernel
theorem i187_95 : lk (mi_ins m187) 95 = some (.iconst 4, 1, []) := by decide +kernel
theorem i187_96 : lk (mi_ins m187) 96 = some (.newarray .int, 2, []) := by decide +kernel
theorem i187_98 : lk (mi_ins m187) 98 = some (.putfield 52, 3, []) := by decide +kernel
theorem i187_101 : lk (mi_ins m187) 101 = some (.aload_n 0, 1, []) := by decide +kernel
theorem i187_102 : lk (mi_ins m187) 102 = some (.iconst 4, 1, []) := by decide +kernel
theorem i187_103 : lk (mi_ins m187) 103 = some (.newarray .int, 2, []) := by decide +kernel
theorem i187_105 : lk (mi_ins m187) 105 = some (.putfield 55, 3, []) := by decide +kernel
theorem i187_108 : lk (mi_ins m187) 108 = some (.aload_n 0, 1, []) := by decide +kernel
theorem i187_109 : lk (mi_ins m187) 109 = some (.iconst 4, 1, []) := by decide +kernel
theorem i187_110 : lk (mi_ins m187) 110 = some (.newarray .int, 2, []) := by decide +kernel
theorem i187_112 : lk (mi_ins m187) 112 = some (.putfield 58, 3, []) := by decide +kernel
theorem i187_115 : lk (mi_ins m187) 115 = some (.aload_n 0, 1, []) := by decide +kernel
theorem i187_116 : lk (mi_ins m187) 116 = some (.iconst 4, 1, []) := by decide +kernel
theorem i187_117 : lk (mi_ins m187) 117 = some (.newarray .int, 2, []) := by decide +kernel
theorem i187_119 : lk (mi_ins m187) 119 = some (.putfield 61, 3, []) := by decide +kernel
theorem i187_122 : lk (mi_ins m187) 122 = some (.aload_n 0, 1, []) := by decide +kernel
theorem i187_123 : lk (mi_ins m187) 123 = some (.iconst 5, 1, []) := by decide +kernel
theorem i187_124 : lk (mi_ins m187) 124 = some (.newarray .int, 2, []) := by decide +kernel
theorem i187_126 : lk (mi_ins m187) 126 = some (.putfield 64, 3, []) := by decide +kernel
theorem i187_129 : lk (mi_ins m187) 129 = some (.aload_n 0, 1, []) := by decide +kernel
theorem i187_130 : lk (mi_ins m187) 130 = some (.iconst 5, 1, []) := by decide +kernel
theorem i187_131 : lk (mi_ins m187) 131 = some (.newarray .int, 2, []) := by decide +kernel
theorem i187_133 : lk (mi_ins m187) 133 = some (.putfield 67, 3, []) := by decide +kernel
theorem i187_136 : lk (mi_ins m187) 136 = some (.aload_n 0, 1, []) := by decide +kernel
theorem i187_137 : lk (mi_ins m187) 137 = some (.bipush 11, 2, []) := by decide +kernel
theorem i187_139 : lk (mi_ins m187) 139 = some (.newarray .long, 2, []) := by decide +kernel
theorem i187_141 : lk (mi_ins m187) 141 = some (.putfield 70, 3, []) := by decide +kernel
theorem i187_144 : lk (mi_ins m187) 144 = some (.aload_n 0, 1, []) := by decide +kernel
theorem i187_145 : lk (mi_ins m187) 145 = some (.bipush 11, 2, []) := by decide +kernel
theorem i187_147 : lk (mi_ins m187) 147 = some (.newarray .int, 2, []) := by decide +kernel
theorem i187_149 : lk (mi_ins m187) 149 = some (.putfield 74, 3, []) := by decide +kernel
theorem i187_152 : lk (mi_ins m187) 152 = some (.aload_n 0, 1, []) := by decide +kernel
theorem i187_153 : lk (mi_ins m187) 153 = some (.bipush 11, 2, []) := by decide +kernel
theorem i187_155 : lk (mi_ins m187) 155 = some (.newarray .int, 2, []) := by decide +kernel
theorem i187_157 : lk (mi_ins m187) 157 = some (.putfield 77, 3, []) := by decide +kernel
theorem i187_160 : lk (mi_ins m187) 160 = some (.return_, 1, []) := by decide +kernel
theorem i188_0 : lk (mi_ins m188) 0 = some (.aload_n 0, 1, []) := by decide +kernel
theorem i188_1 : lk (mi_ins m188) 1 = some (.getfield 83, 3, []) := by decide +kernel
theorem i188_4 : lk (mi_ins m188) 4 = some (.iconst 5, 1, []) := by decide +kernel
theorem i188_5 : lk (mi_ins m188) 5 = some (.if_icmp .ne 4, 3, []) := by decide +kernel
theorem i188_8 : lk (mi_ins m188) 8 = some (.return_, 1, []) := by decide +kernel
theorem i188_9 : lk (mi_ins m188) 9 = some (.aload_n 0, 1, [1, 2]) := by decide +kernel
theorem i188_10 : lk (mi_ins m188) 10 = some (.aload_n 0, 1, []) := by decide +kernel
theorem i188_11 : lk (mi_ins m188) 11 = some (.getfield 86, 3, []) := by decide +kernel
theorem i188_14 : lk (mi_ins m188) 14 = some (.invokevirtual 89, 3, []) := by decide +kernel
theorem i188_17 : lk (mi_ins m188) 17 = some (.bipush 32, 2, []) := by decide +kernel
theorem i188_19 : lk (mi_ins m188) 19 = some (.if_icmp .ne 16, 3, []) := by decide +kernel
theorem i188_22 : lk (mi_ins m188) 22 = some (.aload_n 0, 1, []) := by decide +kernel
theorem i188_23 : lk (mi_ins m188) 23 = some (.dup, 1, []) := by decide +kernel
theorem i188_24 : lk (mi_ins m188) 24 = some (.getfield 86, 3, []) := by decide +kernel
theorem i188_27 : lk (mi_ins m188) 27 = some (.iconst 1, 1, []) := by decide +kernel
theorem i188_28 : lk (mi_ins m188) 28 = some (.iadd, 1, []) := by decide +kernel
theorem i188_29 : lk (mi_ins m188) 29 = some (.putfield 86, 3, []) := by decide +kernel
theorem i188_32 : lk (mi_ins m188) 32 = some (.goto (-23), 3, []) := by decide +kernel
theorem i188_35 : lk (mi_ins m188) 35 = some (.aload_n 0, 1, [1, 2]) := by decide +kernel
theorem i188_36 : lk (mi_ins m188) 36 = some (.aload_n 0, 1, []) := by decide +kernel
theorem i188_37 : lk (mi_ins m188) 37 = some (.getfield 86, 3, []) := by decide +kernel
theorem i188_40 : lk (mi_ins m188) 40 = some (.putfield 92, 3, []) := by decide +kernel
theorem i188_43 : lk (mi_ins m188) 43 = some (.aload_n 0, 1, []) := by decide +kernel
theorem i188_44 : lk (mi_ins m188) 44 = some (.iconst 0, 1, []) := by decide +kernel
theorem i188_45 : lk (mi_ins m188) 45 = some (.putfield 83, 3, []) := by decide +kernel
theorem i188_48 : lk (mi_ins m188) 48 = some (.aload_n 0, 1, []) := by decide +kernel
theorem i188_49 : lk (mi_ins m188) 49 = some (.aload_n 0, 1, []) := by decide +kernel
theorem i188_50 : lk (mi_ins m188) 50 = some (.getfield 86, 3, []) := by decide +kernel
theorem i188_53 : lk (mi_ins m188) 53 = some (.invokevirtual 89, 3, []) := by decide +kernel
theorem i188_56 : lk (mi_ins m188) 56 = some (.istore_n 1, 1, []) := by decide +kernel
theorem i188_57 : lk (mi_ins m188) 57 = some (.iconst 0, 1, []) := by decide +kernel
theorem i188_58 : lk (mi_ins m188) 58 = some (.istore_n 2, 1, []) := by decide +kernel
theorem i188_59 : lk (mi_ins m188) 59 = some (.iload_n 1, 1, []) := by decide +kernel
theorem i188_60 : lk (mi_ins m188) 60 = some (.iconst (-1), 1, []) := by decide +kernel
theorem i188_61 : lk (mi_ins m188) 61 = some (.if_icmp .ne 11, 3, []) := by decide +kernel
theorem i188_64 : lk (mi_ins m188) 64 = some (.aload_n 0, 1, []) := by decide +kernel
theorem i188_65 : lk (mi_ins m188) 65 = some (.iconst 1, 1, []) := by decide +kernel
theorem i188_66 : lk (mi_ins m188) 66 = some (.putfield 83, 3, []) := by decide +kernel
theorem i188_69 : lk (mi_ins m188) 69 = some (.goto 196, 3, []) := by decide +kernel
theorem i188_72 : lk (mi_ins m188) 72 = some (.iload_n 1, 1, []) := by decide +kernel
theorem i188_73 : lk (mi_ins m188) 73 = some (.invokestatic 95, 3, []) := by decide +kernel
theorem i188_76 : lk (mi_ins m188) 76 = some (.ifCond .eq 85, 3, []) := by decide +kernel
theorem i188_79 : lk (mi_ins m188) 79 = some (.aload_n 0, 1, []) := by decide +kernel
theorem i188_80 : lk (mi_ins m188) 80 = some (.lconst 0, 1, []) := by decide +kernel
theorem i188_81 : lk (mi_ins m188) 81 = some (.putfield 99, 3, []) := by decide +kernel
theorem i188_84 : lk (mi_ins m188) 84 = some (.aload_n 0, 1, [1]) := by decide +kernel
theorem i188_85 : lk (mi_ins m188) 85 = some (.aload_n 0, 1, []) := by decide +kernel
theorem i188_86 : lk (mi_ins m188) 86 = some (.getfield 86, 3, []) := by decide +kernel
theorem i188_89 : lk (mi_ins m188) 89 = some (.invokevirtual 89, 3, []) := by decide +kernel
theorem i188_92 : lk (mi_ins m188) 92 = some (.invokestatic 95, 3, []) := by decide +kernel
theorem i188_95 : lk (mi_ins m188) 95 = some (.ifCond .eq 52, 3, []) := by decide +kernel
theorem i188_98 : lk (mi_ins m188) 98 = some (.iload_n 2, 1, []) := by decide +kernel
theorem i188_99 : lk (mi_ins m188) 99 = some (.bipush 8, 2, []) := by decide +kernel
theorem i188_101 : lk (mi_ins m188) 101 = some (.if_icmp .ge 30, 3, []) := by decide +kernel
theorem i188_104 : lk (mi_ins m188) 104 = some (.aload_n 0, 1, []) := by decide +kernel
theorem i188_105 : lk (mi_ins m188) 105 = some (.ldc2_w 77, 3, []) := by decide +kernel
theorem i188_108 : lk (mi_ins m188) 108 = some (.aload_n 0, 1, []) := by decide +kernel
theorem i188_109 : lk (mi_ins m188) 109 = some (.getfield 99, 3, []) := by decide +kernel
theorem i188_112 : lk (mi_ins m188) 112 = some (.lmul, 1, []) := by decide +kernel
theorem i188_113 : lk (mi_ins m188) 113 = some (.aload_n 0, 1, []) := by decide +kernel
theorem i188_114 : lk (mi_ins m188) 114 = some (.aload_n 0, 1, []) := by decide +kernel
theorem i188_115 : lk (mi_ins m188) 115 = some (.getfield 86, 3, []) := by decide +kernel
theorem i188_118 : lk (mi_ins m188) 118 = some (.invokevirtual 89, 3, []) := by decide +kernel
theorem i188_121 : lk (mi_ins m188) 121 = some (.bipush 97, 2, []) := by decide +kernel
theorem i188_123 : lk (mi_ins m188) 123 = some (.isub, 1, []) := by decide +kernel
theorem i188_124 : lk (mi_ins m188) 124 = some (.iconst 1, 1, []) := by decide +kernel
theorem i188_125 : lk (mi_ins m188) 125 = some (.iadd, 1, []) := by decide +kernel
theorem i188_126 : lk (mi_ins m188) 126 = some (.i2l, 1, []) := by decide +kernel
theorem i188_127 : lk (mi_ins m188) 127 = some (.ladd, 1, []) := by decide +kernel
theorem i188_128 : lk (mi_ins m188) 128 = some (.putfield 99, 3, []) := by decide +kernel
theorem i188_131 : lk (mi_ins m188) 131 = some (.iinc 2 1, 3, [1]) := by decide +kernel
theorem i188_134 : lk (mi_ins m188) 134 = some (.aload_n 0, 1, []) := by decide +kernel
theorem i188_135 : lk (mi_ins m188) 135 = some (.dup, 1, []) := by decide +kernel
theorem i188_136 : lk (mi_ins m188) 136 = some (.getfield 86, 3, []) := by decide +kernel
theorem i188_139 : lk (mi_ins m188) 139 = some (.iconst 1, 1, []) := by decide +kernel
theorem i188_140 : lk (mi_ins m188) 140 = some (.iadd, 1, []) := by decide +kernel
theorem i188_141 : lk (mi_ins m188) 141 = some (.putfield 86, 3, []) := by decide +kernel
theorem i188_144 : lk (mi_ins m188) 144 = some (.goto (-60), 3, []) := by decide +kernel
theorem i188_147 : lk (mi_ins m188) 147 = some (.iload_n 2, 1, [1]) := by decide +kernel
theorem i188_148 : lk (mi_ins m188) 148 = some (.bipush 8, 2, []) := by decide +kernel
theorem i188_150 : lk (mi_ins m188) 150 = some (.if_icmp .gt 115, 3, []) := by decide +kernel
theorem i188_153 : lk (mi_ins m188) 153 = some (.aload_n 0, 1, []) := by decide +kernel
theorem i188_154 : lk (mi_ins m188) 154 = some (.iconst 2, 1, []) := by decide +kernel
theorem i188_155 : lk (mi_ins m188) 155 = some (.putfield 83, 3, []) := by decide +kernel
theorem i188_158 : lk (mi_ins m188) 158 = some (.goto 107, 3, []) := by decide +kernel
theorem i188_161 : lk (mi_ins m188) 161 = some (.iload_n 1, 1, []) := by decide +kernel
theorem i188_162 : lk (mi_ins m188) 162 = some (.invokestatic 103, 3, []) := by decide +kernel
theorem i188_165 : lk (mi_ins m188) 165 = some (.ifCond .eq 79, 3, []) := by decide +kernel
theorem i188_168 : lk (mi_ins m188) 168 = some (.aload_n 0, 1, []) := by decide +kernel
theorem i188_169 : lk (mi_ins m188) 169 = some (.iconst 0, 1, []) := by decide +kernel
theorem i188_170 : lk (mi_ins m188) 170 = some (.putfield 106, 3, []) := by decide +kernel
theorem i188_173 : lk (mi_ins m188) 173 = some (.aload_n 0, 1, [1]) := by decide +kernel
theorem i188_174 : lk (mi_ins m188) 174 = some (.aload_n 0, 1, []) := by decide +kernel
theorem i188_175 : lk (mi_ins m188) 175 = some (.getfield 86, 3, []) := by decide +kernel
theorem i188_178 : lk (mi_ins m188) 178 = some (.invokevirtual 89, 3, []) := by decide +kernel
theorem i188_181 : lk (mi_ins m188) 181 = some (.invokestatic 103, 3, []) := by decide +kernel
theorem i188_184 : lk (mi_ins m188) 184 = some (.ifCond .eq 47, 3, []) := by decide +kernel
theorem i188_187 : lk (mi_ins m188) 187 = some (.iload_n 2, 1, []) := by decide +kernel
theorem i188_188 : lk (mi_ins m188) 188 = some (.iconst 3, 1, []) := by decide +kernel
theorem i188_189 : lk (mi_ins m188) 189 = some (.if_icmp .ge 26, 3, []) := by decide +kernel
theorem i188_192 : lk (mi_ins m188) 192 = some (.aload_n 0, 1, []) := by decide +kernel
theorem i188_193 : lk (mi_ins m188) 193 = some (.bipush 10, 2, []) := by decide +kernel
theorem i188_195 : lk (mi_ins m188) 195 = some (.aload_n 0, 1, []) := by decide +kernel
theorem i188_196 : lk (mi_ins m188) 196 = some (.getfield 106, 3, []) := by decide +kernel
theorem i188_199 : lk (mi_ins m188) 199 = some (.imul, 1, []) := by decide +kernel
theorem i188_200 : lk (mi_ins m188) 200 = some (.aload_n 0, 1, []) := by decide +kernel
theorem i188_201 : lk (mi_ins m188) 201 = some (.aload_n 0, 1, []) := by decide +kernel
theorem i188_202 : lk (mi_ins m188) 202 = some (.getfield 86, 3, []) := by decide +kernel
theorem i188_205 : lk (mi_ins m188) 205 = some (.invokevirtual 89, 3, []) := by decide +kernel
theorem i188_208 : lk (mi_ins m188) 208 = some (.iadd, 1, []) := by decide +kernel
theorem i188_209 : lk (mi_ins m188) 209 = some (.bipush 48, 2, []) := by decide +kernel
theorem i188_211 : lk (mi_ins m188) 211 = some (.isub, 1, []) := by decide +kernel
theorem i188_212 : lk (mi_ins m188) 212 = some (.putfield 106, 3, []) := by decide +kernel
theorem i188_215 : lk (mi_ins m188) 215 = some (.iinc 2 1, 3, [1]) := by decide +kernel
theorem i188_218 : lk (mi_ins m188) 218 = some (.aload_n 0, 1, []) := by decide +kernel
theorem i188_219 : lk (mi_ins m188) 219 = some (.dup, 1, []) := by decide +kernel
theorem i188_220 : lk (mi_ins m188) 220 = some (.getfield 86, 3, []) := by decide +kernel
theorem i188_223 : lk (mi_ins m188) 223 = some (.iconst 1, 1, []) := by decide +kernel
theorem i188_224 : lk (mi_ins m188) 224 = some (.iadd, 1, []) := by decide +kernel
theorem i188_225 : lk (mi_ins m188) 225 = some (.putfield 86, 3, []) := by decide +kernel
theorem i188_228 : lk (mi_ins m188) 228 = some (.goto (-55), 3, []) := by decide +kernel
theorem i188_231 : lk (mi_ins m188) 231 = some (.iload_n 2, 1, [1]) := by decide +kernel
theorem i188_232 : lk (mi_ins m188) 232 = some (.iconst 3, 1, []) := by decide +kernel
theorem i188_233 : lk (mi_ins m188) 233 = some (.if_icmp .gt 32, 3, []) := by decide +kernel
theorem i188_236 : lk (mi_ins m188) 236 = some (.aload_n 0, 1, []) := by decide +kernel
theorem i188_237 : lk (mi_ins m188) 237 = some (.iconst 3, 1, []) := by decide +kernel
theorem i188_238 : lk (mi_ins m188) 238 = some (.putfield 83, 3, []) := by decide +kernel
theorem i188_241 : lk (mi_ins m188) 241 = some (.goto 24, 3, []) := by decide +kernel
theorem i188_244 : lk (mi_ins m188) 244 = some (.iload_n 1, 1, []) := by decide +kernel
theorem i188_245 : lk (mi_ins m188) 245 = some (.bipush 59, 2, []) := by decide +kernel
theorem i188_247 : lk (mi_ins m188) 247 = some (.if_icmp .ne 18, 3, []) := by decide +kernel
theorem i188_250 : lk (mi_ins m188) 250 = some (.aload_n 0, 1, []) := by decide +kernel
theorem i188_251 : lk (mi_ins m188) 251 = some (.iconst 4, 1, []) := by decide +kernel
theorem i188_252 : lk (mi_ins m188) 252 = some (.putfield 83, 3, []) := by decide +kernel
theorem i188_255 : lk (mi_ins m188) 255 = some (.aload_n 0, 1, []) := by decide +kernel
theorem i188_256 : lk (mi_ins m188) 256 = some (.dup, 1, []) := by decide +kernel
theorem i188_257 : lk (mi_ins m188) 257 = some (.getfield 86, 3, []) := by decide +kernel
theorem i188_260 : lk (mi_ins m188) 260 = some (.iconst 1, 1, []) := by decide +kernel
theorem i188_261 : lk (mi_ins m188) 261 = some (.iadd, 1, []) := by decide +kernel
theorem i188_262 : lk (mi_ins m188) 262 = some (.putfield 86, 3, []) := by decide +kernel
theorem i188_265 : lk (mi_ins m188) 265 = some (.return_, 1, [0, 1, 2]) := by decide +kernel
theorem i189_0 : lk (mi_ins m189) 0 = some (.iload_n 1, 1, []) := by decide +kernel
theorem i189_1 : lk (mi_ins m189) 1 = some (.aload_n 0, 1, []) := by decide +kernel
theorem i189_2 : lk (mi_ins m189) 2 = some (.getfield 68, 3, []) := by decide +kernel
theorem i189_5 : lk (mi_ins m189) 5 = some (.if_icmp .ge 16, 3, []) := by decide +kernel
theorem i189_8 : lk (mi_ins m189) 8 = some (.aload_n 0, 1, []) := by decide +kernel
theorem i189_9 : lk (mi_ins m189) 9 = some (.getfield 13, 3, []) := by decide +kernel
theorem i189_12 : lk (mi_ins m189) 12 = some (.iload_n 1, 1, []) := by decide +kernel
theorem i189_13 : lk (mi_ins m189) 13 = some (.baload, 1, []) := by decide +kernel
theorem i189_14 : lk (mi_ins m189) 14 = some (.sipush 255, 3, []) := by decide +kernel
theorem i189_17 : lk (mi_ins m189) 17 = some (.iand, 1, []) := by decide +kernel
theorem i189_18 : lk (mi_ins m189) 18 = some (.goto 4, 3, []) := by decide +kernel
theorem i189_21 : lk (mi_ins m189) 21 = some (.iconst (-1), 1, []) := by decide +kernel
theorem i189_22 : lk (mi_ins m189) 22 = some (.ireturn, 1, [0, 1]) := by decide +kernel
theorem i190_0 : lk (mi_ins m190) 0 = some (.iload_n 0, 1, []) := by decide +kernel
theorem i190_1 : lk (mi_ins m190) 1 = some (.bipush 97, 2, []) := by decide +kernel
theorem i190_3 : lk (mi_ins m190) 3 = some (.if_icmp .lt 13, 3, []) := by decide +kernel
theorem i190_6 : lk (mi_ins m190) 6 = some (.iload_n 0, 1, []) := by decide +kernel
theorem i190_7 : lk (mi_ins m190) 7 = some (.bipush 122, 2, []) := by decide +kernel
theorem i190_9 : lk (mi_ins m190) 9 = some (.if_icmp .gt 7, 3, []) := by decide +kernel
theorem i190_12 : lk (mi_ins m190) 12 = some (.iconst 1, 1, []) := by decide +kernel
theorem i190_13 : lk (mi_ins m190) 13 = some (.goto 4, 3, []) := by decide +kernel
theorem i190_16 : lk (mi_ins m190) 16 = some (.iconst 0, 1, [0]) := by decide +kernel
theorem i190_17 : lk (mi_ins m190) 17 = some (.ireturn, 1, [0]) := by decide +kernel
theorem i191_0 : lk (mi_ins m191) 0 = some (.iload_n 0, 1, []) := by decide +kernel
theorem i191_1 : lk (mi_ins m191) 1 = some (.bipush 48, 2, []) := by decide +kernel
theorem i191_3 : lk (mi_ins m191) 3 = some (.if_icmp .lt 13, 3, []) := by decide +kernel
theorem i191_6 : lk (mi_ins m191) 6 = some (.iload_n 0, 1, []) := by decide +kernel
theorem i191_7 : lk (mi_ins m191) 7 = some (.bipush 57, 2, []) := by decide +kernel
theorem i191_9 : lk (mi_ins m191) 9 = some (.if_icmp .gt 7, 3, []) := by decide +kernel
theorem i191_12 : lk (mi_ins m191) 12 = some (.iconst 1, 1, []) := by decide +kernel
theorem i191_13 : lk (mi_ins m191) 13 = some (.goto 4, 3, []) := by decide +kernel
theorem i191_16 : lk (mi_ins m191) 16 = some (.iconst 0, 1, [0]) := by decide +kernel
theorem i191_17 : lk (mi_ins m191) 17 = some (.ireturn, 1, [0]) := by decide +kernel
theorem i192_0 : lk (mi_ins m192) 0 = some (.iconst 1, 1, []) := by decide +kernel
theorem i192_1 : lk (mi_ins m192) 1 = some (.istore_n 1, 1, []) := by decide +kernel
theorem i192_2 : lk (mi_ins m192) 2 = some (.iload_n 1, 1, []) := by decide +kernel
theorem i192_3 : lk (mi_ins m192) 3 = some (.ifCond .eq 15, 3, []) := by decide +kernel
theorem i192_6 : lk (mi_ins m192) 6 = some (.aload_n 0, 1, []) := by decide +kernel
theorem i192_7 : lk (mi_ins m192) 7 = some (.invokevirtual 203, 3, []) := by decide +kernel
theorem i192_10 : lk (mi_ins m192) 10 = some (.aload_n 0, 1, []) := by decide +kernel
theorem i192_11 : lk (mi_ins m192) 11 = some (.invokevirtual 206, 3, []) := by decide +kernel
theorem i192_14 : lk (mi_ins m192) 14 = some (.istore_n 1, 1, []) := by decide +kernel
theorem i192_15 : lk (mi_ins m192) 15 = some (.goto (-13), 3, []) := by decide +kernel
theorem i192_18 : lk (mi_ins m192) 18 = some (.aload_n 0, 1, [1]) := by decide +kernel
theorem i192_19 : lk (mi_ins m192) 19 = some (.getfield 83, 3, []) := by decide +kernel
theorem i192_22 : lk (mi_ins m192) 22 = some (.iconst 1, 1, []) := by decide +kernel
theorem i192_23 : lk (mi_ins m192) 23 = some (.if_icmp .eq 8, 3, []) := by decide +kernel
theorem i192_26 : lk (mi_ins m192) 26 = some (.aload_n 0, 1, []) := by decide +kernel
theorem i192_27 : lk (mi_ins m192) 27 = some (.iconst 1, 1, []) := by decide +kernel
theorem i192_28 : lk (mi_ins m192) 28 = some (.invokevirtual 126, 3, []) := by decide +kernel
theorem i192_31 : lk (mi_ins m192) 31 = some (.aload_n 0, 1, [1]) := by decide +kernel
theorem i192_32 : lk (mi_ins m192) 32 = some (.getfield 160, 3, []) := by decide +kernel
theorem i192_35 : lk (mi_ins m192) 35 = some (.getfield 209, 3, []) := by decide +kernel
theorem i192_38 : lk (mi_ins m192) 38 = some (.ifCond .ne 9, 3, []) := by decide +kernel
theorem i192_41 : lk (mi_ins m192) 41 = some (.aload_n 0, 1, []) := by decide +kernel
theorem i192_42 : lk (mi_ins m192) 42 = some (.bipush 6, 2, []) := by decide +kernel
theorem i192_44 : lk (mi_ins m192) 44 = some (.invokevirtual 126, 3, []) := by decide +kernel
theorem i192_47 : lk (mi_ins m192) 47 = some (.return_, 1, [0, 1]) := by decide +kernel
theorem i193_0 : lk (mi_ins m193) 0 = some (.aload_n 0, 1, []) := by decide +kernel
theorem i193_1 : lk (mi_ins m193) 1 = some (.ldc 142, 2, []) := by decide +kernel
theorem i193_3 : lk (mi_ins m193) 3 = some (.invokevirtual 122, 3, []) := by decide +kernel
theorem i193_6 : lk (mi_ins m193) 6 = some (.ifCond .eq 10, 3, []) := by decide +kernel
theorem i193_9 : lk (mi_ins m193) 9 = some (.aload_n 0, 1, []) := by decide +kernel
theorem i193_10 : lk (mi_ins m193) 10 = some (.invokevirtual 212, 3, []) := by decide +kernel
theorem i193_13 : lk (mi_ins m193) 13 = some (.goto 136, 3, []) := by decide +kernel
theorem i193_16 : lk (mi_ins m193) 16 = some (.aload_n 0, 1, []) := by decide +kernel
theorem i193_17 : lk (mi_ins m193) 17 = some (.ldc 144, 2, []) := by decide +kernel
theorem i193_19 : lk (mi_ins m193) 19 = some (.invokevirtual 122, 3, []) := by decide +kernel
theorem i193_22 : lk (mi_ins m193) 22 = some (.ifCond .eq 10, 3, []) := by decide +kernel
theorem i193_25 : lk (mi_ins m193) 25 = some (.aload_n 0, 1, []) := by decide +kernel
theorem i193_26 : lk (mi_ins m193) 26 = some (.invokevirtual 215, 3, []) := by decide +kernel
theorem i193_29 : lk (mi_ins m193) 29 = some (.goto 120, 3, []) := by decide +kernel
theorem i193_32 : lk (mi_ins m193) 32 = some (.aload_n 0, 1, []) := by decide +kernel
theorem i193_33 : lk (mi_ins m193) 33 = some (.ldc 146, 2, []) := by decide +kernel
theorem i193_35 : lk (mi_ins m193) 35 = some (.invokevirtual 122, 3, []) := by decide +kernel
theorem i193_38 : lk (mi_ins m193) 38 = some (.ifCond .eq 10, 3, []) := by decide +kernel
theorem i193_41 : lk (mi_ins m193) 41 = some (.aload_n 0, 1, []) := by decide +kernel
theorem i193_42 : lk (mi_ins m193) 42 = some (.invokevirtual 218, 3, []) := by decide +kernel
theorem i193_45 : lk (mi_ins m193) 45 = some (.goto 104, 3, []) := by decide +kernel
theorem i193_48 : lk (mi_ins m193) 48 = some (.aload_n 0, 1, []) := by decide +kernel
theorem i193_49 : lk (mi_ins m193) 49 = some (.ldc 148, 2, []) := by decide +kernel
theorem i193_51 : lk (mi_ins m193) 51 = some (.invokevirtual 122, 3, []) := by decide +kernel
theorem i193_54 : lk (mi_ins m193) 54 = some (.ifCond .eq 10, 3, []) := by decide +kernel
theorem i193_57 : lk (mi_ins m193) 57 = some (.aload_n 0, 1, []) := by decide +kernel
theorem i193_58 : lk (mi_ins m193) 58 = some (.invokevirtual 221, 3, []) := by decide +kernel
theorem i193_61 : lk (mi_ins m193) 61 = some (.goto 88, 3, []) := by decide +kernel
theorem i193_64 : lk (mi_ins m193) 64 = some (.aload_n 0, 1, []) := by decide +kernel
theorem i193_65 : lk (mi_ins m193) 65 = some (.ldc 150, 2, []) := by decide +kernel
theorem i193_67 : lk (mi_ins m193) 67 = some (.invokevirtual 122, 3, []) := by decide +kernel
theorem i193_70 : lk (mi_ins m193) 70 = some (.ifCond .eq 10, 3, []) := by decide +kernel
theorem i193_73 : lk (mi_ins m193) 73 = some (.aload_n 0, 1, []) := by decide +kernel
theorem i193_74 : lk (mi_ins m193) 74 = some (.invokevirtual 224, 3, []) := by decide +kernel
theorem i193_77 : lk (mi_ins m193) 77 = some (.goto 72, 3, []) := by decide +kernel
theorem i193_80 : lk (mi_ins m193) 80 = some (.aload_n 0, 1, []) := by decide +kernel
theorem i193_81 : lk (mi_ins m193) 81 = some (.ldc 152, 2, []) := by decide +kernel
theorem i193_83 : lk (mi_ins m193) 83 = some (.invokevirtual 122, 3, []) := by decide +kernel
theorem i193_86 : lk (mi_ins m193) 86 = some (.ifCond .eq 10, 3, []) := by decide +kernel
theorem i193_89 : lk (mi_ins m193) 89 = some (.aload_n 0, 1, []) := by decide +kernel
theorem i193_90 : lk (mi_ins m193) 90 = some (.invokevirtual 227, 3, []) := by decide +kernel
theorem i193_93 : lk (mi_ins m193) 93 = some (.goto 56, 3, []) := by decide +kernel
theorem i193_96 : lk (mi_ins m193) 96 = some (.aload_n 0, 1, []) := by decide +kernel
theorem i193_97 : lk (mi_ins m193) 97 = some (.ldc 154, 2, []) := by decide +kernel
theorem i193_99 : lk (mi_ins m193) 99 = some (.invokevirtual 122, 3, []) := by decide +kernel
theorem i193_102 : lk (mi_ins m193) 102 = some (.ifCond .eq 10, 3, []) := by decide +kernel
theorem i193_105 : lk (mi_ins m193) 105 = some (.aload_n 0, 1, []) := by decide +kernel
theorem i193_106 : lk (mi_ins m193) 106 = some (.invokevirtual 230, 3, []) := by decide +kernel
theorem i193_109 : lk (mi_ins m193) 109 = some (.goto 40, 3, []) := by decide +kernel
theorem i193_112 : lk (mi_ins m193) 112 = some (.aload_n 0, 1, []) := by decide +kernel
theorem i193_113 : lk (mi_ins m193) 113 = some (.ldc 156, 2, []) := by decide +kernel
theorem i193_115 : lk (mi_ins m193) 115 = some (.invokevirtual 122, 3, []) := by decide +kernel
theorem i193_118 : lk (mi_ins m193) 118 = some (.ifCond .eq 10, 3, []) := by decide +kernel
theorem i193_121 : lk (mi_ins m193) 121 = some (.aload_n 0, 1, []) := by decide +kernel
theorem i193_122 : lk (mi_ins m193) 122 = some (.invokevirtual 233, 3, []) := by decide +kernel
theorem i193_125 : lk (mi_ins m193) 125 = some (.goto 24, 3, []) := by decide +kernel
theorem i193_128 : lk (mi_ins m193) 128 = some (.aload_n 0, 1, []) := by decide +kernel
theorem i193_129 : lk (mi_ins m193) 129 = some (.ldc 158, 2, []) := by decide +kernel
theorem i193_131 : lk (mi_ins m193) 131 = some (.invokevirtual 122, 3, []) := by decide +kernel
theorem i193_134 : lk (mi_ins m193) 134 = some (.ifCond .eq 10, 3, []) := by decide +kernel
theorem i193_137 : lk (mi_ins m193) 137 = some (.aload_n 0, 1, []) := by decide +kernel
theorem i193_138 : lk (mi_ins m193) 138 = some (.invokevirtual 236, 3, []) := by decide +kernel
theorem i193_141 : lk (mi_ins m193) 141 = some (.goto 8, 3, []) := by decide +kernel
theorem i193_144 : lk (mi_ins m193) 144 = some (.aload_n 0, 1, []) := by decide +kernel
theorem i193_145 : lk (mi_ins m193) 145 = some (.iconst 1, 1, []) := by decide +kernel
theorem i193_146 : lk (mi_ins m193) 146 = some (.invokevirtual 126, 3, []) := by decide +kernel
theorem i193_149 : lk (mi_ins m193) 149 = some (.return_, 1, [0]) := by decide +kernel
theorem i194_0 : lk (mi_ins m194) 0 = some (.aload_n 0, 1, []) := by decide +kernel
theorem i194_1 : lk (mi_ins m194) 1 = some (.getfield 83, 3, []) := by decide +kernel
theorem i194_4 : lk (mi_ins m194) 4 = some (.iconst 2, 1, []) := by decide +kernel
theorem i194_5 : lk (mi_ins m194) 5 = some (.if_icmp .ne 19, 3, []) := by decide +kernel
theorem i194_8 : lk (mi_ins m194) 8 = some (.aload_n 0, 1, []) := by decide +kernel
theorem i194_9 : lk (mi_ins m194) 9 = some (.getfield 99, 3, []) := by decide +kernel
theorem i194_12 : lk (mi_ins m194) 12 = some (.aload_n 1, 1, []) := by decide +kernel
theorem i194_13 : lk (mi_ins m194) 13 = some (.invokestatic 115, 3, []) := by decide +kernel
theorem i194_16 : lk (mi_ins m194) 16 = some (.lcmp, 1, []) := by decide +kernel
theorem i194_17 : lk (mi_ins m194) 17 = some (.ifCond .ne 7, 3, []) := by decide +kernel
theorem i194_20 : lk (mi_ins m194) 20 = some (.iconst 1, 1, []) := by decide +kernel
theorem i194_21 : lk (mi_ins m194) 21 = some (.goto 4, 3, []) := by decide +kernel
theorem i194_24 : lk (mi_ins m194) 24 = some (.iconst 0, 1, [0, 1]) := by decide +kernel
theorem i194_25 : lk (mi_ins m194) 25 = some (.ireturn, 1, [0, 1]) := by decide +kernel
theorem i195_0 : lk (mi_ins m195) 0 = some (.lconst 0, 1, []) := by decide +kernel
theorem i195_1 : lk (mi_ins m195) 1 = some (.lstore_n 1, 1, []) := by decide +kernel
theorem i195_2 : lk (mi_ins m195) 2 = some (.iconst 0, 1, []) := by decide +kernel
theorem i195_3 : lk (mi_ins m195) 3 = some (.istore_n 3, 1, []) := by decide +kernel
theorem i195_4 : lk (mi_ins m195) 4 = some (.iload_n 3, 1, [2]) := by decide +kernel
theorem i195_5 : lk (mi_ins m195) 5 = some (.aload_n 0, 1, []) := by decide +kernel
theorem i195_6 : lk (mi_ins m195) 6 = some (.invokevirtual 71, 3, []) := by decide +kernel
theorem i195_9 : lk (mi_ins m195) 9 = some (.if_icmp .ge 27, 3, []) := by decide +kernel
theorem i195_12 : lk (mi_ins m195) 12 = some (.ldc2_w 77, 3, []) := by decide +kernel
theorem i195_15 : lk (mi_ins m195) 15 = some (.lload_n 1, 1, []) := by decide +kernel
theorem i195_16 : lk (mi_ins m195) 16 = some (.lmul, 1, []) := by decide +kernel
theorem i195_17 : lk (mi_ins m195) 17 = some (.aload_n 0, 1, []) := by decide +kernel
theorem i195_18 : lk (mi_ins m195) 18 = some (.iload_n 3, 1, []) := by decide +kernel
theorem i195_19 : lk (mi_ins m195) 19 = some (.invokevirtual 79, 3, []) := by decide +kernel
theorem i195_22 : lk (mi_ins m195) 22 = some (.bipush 97, 2, []) := by decide +kernel
theorem i195_24 : lk (mi_ins m195) 24 = some (.isub, 1, []) := by decide +kernel
theorem i195_25 : lk (mi_ins m195) 25 = some (.iconst 1, 1, []) := by decide +kernel
theorem i195_26 : lk (mi_ins m195) 26 = some (.iadd, 1, []) := by decide +kernel
theorem i195_27 : lk (mi_ins m195) 27 = some (.i2l, 1, []) := by decide +kernel
theorem i195_28 : lk (mi_ins m195) 28 = some (.ladd, 1, []) := by decide +kernel
theorem i195_29 : lk (mi_ins m195) 29 = some (.lstore_n 1, 1, []) := by decide +kernel
theorem i195_30 : lk (mi_ins m195) 30 = some (.iinc 3 1, 3, []) := by decide +kernel
theorem i195_33 : lk (mi_ins m195) 33 = some (.goto (-29), 3, []) := by decide +kernel
theorem i195_36 : lk (mi_ins m195) 36 = some (.lload_n 1, 1, [0, 2, 3]) := by decide +kernel
theorem i195_37 : lk (mi_ins m195) 37 = some (.lreturn, 1, []) := by decide +kernel
theorem i196_0 : lk (mi_ins m196) 0 = some (.aload_n 0, 1, []) := by decide +kernel
theorem i196_1 : lk (mi_ins m196) 1 = some (.getfield 160, 3, []) := by decide +kernel
theorem i196_4 : lk (mi_ins m196) 4 = some (.getfield 164, 3, []) := by decide +kernel
theorem i196_7 : lk (mi_ins m196) 7 = some (.iconst (-1), 1, []) := by decide +kernel
theorem i196_8 : lk (mi_ins m196) 8 = some (.if_icmp .eq 8, 3, []) := by decide +kernel
theorem i196_11 : lk (mi_ins m196) 11 = some (.aload_n 0, 1, []) := by decide +kernel
theorem i196_12 : lk (mi_ins m196) 12 = some (.iconst 3, 1, []) := by decide +kernel
theorem i196_13 : lk (mi_ins m196) 13 = some (.invokevirtual 126, 3, []) := by decide +kernel
theorem i196_16 : lk (mi_ins m196) 16 = some (.aload_n 0, 1, [1]) := by decide +kernel
theorem i196_17 : lk (mi_ins m196) 17 = some (.invokevirtual 119, 3, []) := by decide +kernel
theorem i196_20 : lk (mi_ins m196) 20 = some (.aload_n 0, 1, []) := by decide +kernel
theorem i196_21 : lk (mi_ins m196) 21 = some (.ldc 239, 2, []) := by decide +kernel
theorem i196_23 : lk (mi_ins m196) 23 = some (.iconst 0, 1, []) := by decide +kernel
theorem i196_24 : lk (mi_ins m196) 24 = some (.bipush 100, 2, []) := by decide +kernel
theorem i196_26 : lk (mi_ins m196) 26 = some (.invokevirtual 240, 3, []) := by decide +kernel
theorem i196_29 : lk (mi_ins m196) 29 = some (.istore_n 1, 1, []) := by decide +kernel
theorem i196_30 : lk (mi_ins m196) 30 = some (.aload_n 0, 1, []) := by decide +kernel
theorem i196_31 : lk (mi_ins m196) 31 = some (.getfield 83, 3, []) := by decide +kernel
theorem i196_34 : lk (mi_ins m196) 34 = some (.iconst 5, 1, []) := by decide +kernel
theorem i196_35 : lk (mi_ins m196) 35 = some (.if_icmp .eq 11, 3, []) := by decide +kernel
theorem i196_38 : lk (mi_ins m196) 38 = some (.aload_n 0, 1, []) := by decide +kernel
theorem i196_39 : lk (mi_ins m196) 39 = some (.getfield 160, 3, []) := by decide +kernel
theorem i196_42 : lk (mi_ins m196) 42 = some (.iload_n 1, 1, []) := by decide +kernel
theorem i196_43 : lk (mi_ins m196) 43 = some (.putfield 164, 3, []) := by decide +kernel
theorem i196_46 : lk (mi_ins m196) 46 = some (.return_, 1, [0, 1]) := by decide +kernel
theorem i197_0 : lk (mi_ins m197) 0 = some (.aload_n 0, 1, []) := by decide +kernel
theorem i197_1 : lk (mi_ins m197) 1 = some (.getfield 83, 3, []) := by decide +kernel
theorem i197_4 : lk (mi_ins m197) 4 = some (.iconst 5, 1, []) := by decide +kernel
theorem i197_5 : lk (mi_ins m197) 5 = some (.if_icmp .ne 4, 3, []) := by decide +kernel
theorem i197_8 : lk (mi_ins m197) 8 = some (.return_, 1, []) := by decide +kernel
theorem i197_9 : lk (mi_ins m197) 9 = some (.aload_n 0, 1, []) := by decide +kernel
theorem i197_10 : lk (mi_ins m197) 10 = some (.iload_n 1, 1, []) := by decide +kernel
theorem i197_11 : lk (mi_ins m197) 11 = some (.putfield 109, 3, []) := by decide +kernel
theorem i197_14 : lk (mi_ins m197) 14 = some (.aload_n 0, 1, []) := by decide +kernel
theorem i197_15 : lk (mi_ins m197) 15 = some (.aload_n 0, 1, []) := by decide +kernel
theorem i197_16 : lk (mi_ins m197) 16 = some (.getfield 92, 3, []) := by decide +kernel
theorem i197_19 : lk (mi_ins m197) 19 = some (.putfield 112, 3, []) := by decide +kernel
theorem i197_22 : lk (mi_ins m197) 22 = some (.aload_n 0, 1, []) := by decide +kernel
theorem i197_23 : lk (mi_ins m197) 23 = some (.iconst 5, 1, []) := by decide +kernel
theorem i197_24 : lk (mi_ins m197) 24 = some (.putfield 83, 3, []) := by decide +kernel
theorem i197_27 : lk (mi_ins m197) 27 = some (.return_, 1, []) := by decide +kernel
theorem i198_0 : lk (mi_ins m198) 0 = some (.aload_n 0, 1, []) := by decide +kernel
theorem i198_1 : lk (mi_ins m198) 1 = some (.aload_n 1, 1, []) := by decide +kernel
theorem i198_2 : lk (mi_ins m198) 2 = some (.invokevirtual 134, 3, []) := by decide +kernel
theorem i198_5 : lk (mi_ins m198) 5 = some (.aload_n 0, 1, []) := by decide +kernel
theorem i198_6 : lk (mi_ins m198) 6 = some (.iload_n 2, 1, []) := by decide +kernel
theorem i198_7 : lk (mi_ins m198) 7 = some (.iload_n 3, 1, []) := by decide +kernel
theorem i198_8 : lk (mi_ins m198) 8 = some (.invokevirtual 138, 3, []) := by decide +kernel
theorem i198_11 : lk (mi_ins m198) 11 = some (.ireturn, 1, []) := by decide +kernel
theorem i199_0 : lk (mi_ins m199) 0 = some (.aload_n 0, 1, []) := by decide +kernel
theorem i199_1 : lk (mi_ins m199) 1 = some (.aload_n 1, 1, []) := by decide +kernel
theorem i199_2 : lk (mi_ins m199) 2 = some (.invokevirtual 122, 3, []) := by decide +kernel
theorem i199_5 : lk (mi_ins m199) 5 = some (.ifCond .ne 8, 3, []) := by decide +kernel
theorem i199_8 : lk (mi_ins m199) 8 = some (.aload_n 0, 1, []) := by decide +kernel
theorem i199_9 : lk (mi_ins m199) 9 = some (.iconst 1, 1, []) := by decide +kernel
theorem i199_10 : lk (mi_ins m199) 10 = some (.invokevirtual 126, 3, []) := by decide +kernel
theorem i199_13 : lk (mi_ins m199) 13 = some (.aload_n 0, 1, [1]) := by decide +kernel
theorem i199_14 : lk (mi_ins m199) 14 = some (.invokevirtual 119, 3, []) := by decide +kernel
theorem i199_17 : lk (mi_ins m199) 17 = some (.return_, 1, []) := by decide +kernel
theorem i200_0 : lk (mi_ins m200) 0 = some (.aload_n 0, 1, []) := by decide +kernel
theorem i200_1 : lk (mi_ins m200) 1 = some (.getfield 83, 3, []) := by decide +kernel
theorem i200_4 : lk (mi_ins m200) 4 = some (.iconst 3, 1, []) := by decide +kernel
theorem i200_5 : lk (mi_ins m200) 5 = some (.if_icmp .eq 11, 3, []) := by decide +kernel
theorem i200_8 : lk (mi_ins m200) 8 = some (.aload_n 0, 1, []) := by decide +kernel
theorem i200_9 : lk (mi_ins m200) 9 = some (.iconst 1, 1, []) := by decide +kernel
theorem i200_10 : lk (mi_ins m200) 10 = some (.invokevirtual 126, 3, []) := by decide +kernel
theorem i200_13 : lk (mi_ins m200) 13 = some (.goto 20, 3, []) := by decide +kernel
theorem i200_16 : lk (mi_ins m200) 16 = some (.aload_n 0, 1, []) := by decide +kernel
theorem i200_17 : lk (mi_ins m200) 17 = some (.getfield 106, 3, []) := by decide +kernel
theorem i200_20 : lk (mi_ins m200) 20 = some (.iload_n 1, 1, []) := by decide +kernel
theorem i200_21 : lk (mi_ins m200) 21 = some (.iload_n 2, 1, []) := by decide +kernel
theorem i200_22 : lk (mi_ins m200) 22 = some (.invokestatic 130, 3, []) := by decide +kernel
theorem i200_25 : lk (mi_ins m200) 25 = some (.ifCond .ne 8, 3, []) := by decide +kernel
theorem i200_28 : lk (mi_ins m200) 28 = some (.aload_n 0, 1, []) := by decide +kernel
theorem i200_29 : lk (mi_ins m200) 29 = some (.iconst 4, 1, []) := by decide +kernel
theorem i200_30 : lk (mi_ins m200) 30 = some (.invokevirtual 126, 3, []) := by decide +kernel
theorem i200_33 : lk (mi_ins m200) 33 = some (.aload_n 0, 1, [2, 3]) := by decide +kernel
theorem i200_34 : lk (mi_ins m200) 34 = some (.getfield 83, 3, []) := by decide +kernel
theorem i200_37 : lk (mi_ins m200) 37 = some (.iconst 5, 1, []) := by decide +kernel
theorem i200_38 : lk (mi_ins m200) 38 = some (.if_icmp .ne 7, 3, []) := by decide +kernel
theorem i200_41 : lk (mi_ins m200) 41 = some (.iload_n 1, 1, []) := by decide +kernel
theorem i200_42 : lk (mi_ins m200) 42 = some (.goto 7, 3, []) := by decide +kernel
theorem i200_45 : lk (mi_ins m200) 45 = some (.aload_n 0, 1, []) := by decide +kernel
theorem i200_46 : lk (mi_ins m200) 46 = some (.getfield 106, 3, []) := by decide +kernel
theorem i200_49 : lk (mi_ins m200) 49 = some (.istore_n 3, 1, [1, 2, 3]) := by decide +kernel
theorem i200_50 : lk (mi_ins m200) 50 = some (.aload_n 0, 1, []) := by decide +kernel
theorem i200_51 : lk (mi_ins m200) 51 = some (.invokevirtual 119, 3, []) := by decide +kernel
theorem i200_54 : lk (mi_ins m200) 54 = some (.iload_n 3, 1, []) := by decide +kernel
theorem i200_55 : lk (mi_ins m200) 55 = some (.ireturn, 1, []) := by decide +kernel
theorem i201_0 : lk (mi_ins m201) 0 = some (.iload_n 0, 1, []) := by decide +kernel
theorem i201_1 : lk (mi_ins m201) 1 = some (.iload_n 1, 1, []) := by decide +kernel
theorem i201_2 : lk (mi_ins m201) 2 = some (.if_icmp .lt 12, 3, []) := by decide +kernel
theorem i201_5 : lk (mi_ins m201) 5 = some (.iload_n 0, 1, []) := by decide +kernel
theorem i201_6 : lk (mi_ins m201) 6 = some (.iload_n 2, 1, []) := by decide +kernel
theorem i201_7 : lk (mi_ins m201) 7 = some (.if_icmp .gt 7, 3, []) := by decide +kernel
theorem i201_10 : lk (mi_ins m201) 10 = some (.iconst 1, 1, []) := by decide +kernel
theorem i201_11 : lk (mi_ins m201) 11 = some (.goto 4, 3, []) := by decide +kernel
theorem i201_14 : lk (mi_ins m201) 14 = some (.iconst 0, 1, [0, 1, 2]) := by decide +kernel
theorem i201_15 : lk (mi_ins m201) 15 = some (.ireturn, 1, [0, 1, 2]) := by decide +kernel
theorem i202_0 : lk (mi_ins m202) 0 = some (.aload_n 0, 1, []) := by decide +kernel
theorem i202_1 : lk (mi_ins m202) 1 = some (.aload_n 0, 1, []) := by decide +kernel
theorem i202_2 : lk (mi_ins m202) 2 = some (.getfield 160, 3, []) := by decide +kernel
theorem i202_5 : lk (mi_ins m202) 5 = some (.getfield 209, 3, []) := by decide +kernel
theorem i202_8 : lk (mi_ins m202) 8 = some (.iconst 5, 1, []) := by decide +kernel
theorem i202_9 : lk (mi_ins m202) 9 = some (.invokevirtual 244, 3, []) := by decide +kernel
theorem i202_12 : lk (mi_ins m202) 12 = some (.aload_n 0, 1, []) := by decide +kernel
theorem i202_13 : lk (mi_ins m202) 13 = some (.invokevirtual 248, 3, []) := by decide +kernel
theorem i202_16 : lk (mi_ins m202) 16 = some (.lstore_n 1, 1, []) := by decide +kernel
theorem i202_17 : lk (mi_ins m202) 17 = some (.aload_n 0, 1, []) := by decide +kernel
theorem i202_18 : lk (mi_ins m202) 18 = some (.ldc 252, 2, []) := by decide +kernel
theorem i202_20 : lk (mi_ins m202) 20 = some (.invokevirtual 122, 3, []) := by decide +kernel
theorem i202_23 : lk (mi_ins m202) 23 = some (.ifCond .eq 7, 3, []) := by decide +kernel
theorem i202_26 : lk (mi_ins m202) 26 = some (.iconst 0, 1, []) := by decide +kernel
theorem i202_27 : lk (mi_ins m202) 27 = some (.goto 17, 3, []) := by decide +kernel
theorem i202_30 : lk (mi_ins m202) 30 = some (.aload_n 0, 1, []) := by decide +kernel
theorem i202_31 : lk (mi_ins m202) 31 = some (.ldc 254, 2, []) := by decide +kernel
theorem i202_33 : lk (mi_ins m202) 33 = some (.invokevirtual 122, 3, []) := by decide +kernel
theorem i202_36 : lk (mi_ins m202) 36 = some (.ifCond .eq 7, 3, []) := by decide +kernel
theorem i202_39 : lk (mi_ins m202) 39 = some (.iconst 1, 1, []) := by decide +kernel
theorem i202_40 : lk (mi_ins m202) 40 = some (.goto 4, 3, []) := by decide +kernel
theorem i202_43 : lk (mi_ins m202) 43 = some (.iconst (-1), 1, []) := by decide +kernel
theorem i202_44 : lk (mi_ins m202) 44 = some (.istore_n 3, 1, [2, 3, 4]) := by decide +kernel
theorem i202_45 : lk (mi_ins m202) 45 = some (.iload_n 3, 1, []) := by decide +kernel
theorem i202_46 : lk (mi_ins m202) 46 = some (.iconst (-1), 1, []) := by decide +kernel
theorem i202_47 : lk (mi_ins m202) 47 = some (.if_icmp .ne 8, 3, []) := by decide +kernel
theorem i202_50 : lk (mi_ins m202) 50 = some (.aload_n 0, 1, []) := by decide +kernel
theorem i202_51 : lk (mi_ins m202) 51 = some (.iconst 1, 1, []) := by decide +kernel
theorem i202_52 : lk (mi_ins m202) 52 = some (.invokevirtual 126, 3, []) := by decide +kernel
theorem i202_55 : lk (mi_ins m202) 55 = some (.aload_n 0, 1, [2, 4]) := by decide +kernel
theorem i202_56 : lk (mi_ins m202) 56 = some (.invokevirtual 119, 3, []) := by decide +kernel
theorem i202_59 : lk (mi_ins m202) 59 = some (.aload_n 0, 1, []) := by decide +kernel
theorem i202_60 : lk (mi_ins m202) 60 = some (.ldc_w 256, 3, []) := by decide +kernel
theorem i202_63 : lk (mi_ins m202) 63 = some (.iconst 0, 1, []) := by decide +kernel
theorem i202_64 : lk (mi_ins m202) 64 = some (.bipush 99, 2, []) := by decide +kernel
theorem i202_66 : lk (mi_ins m202) 66 = some (.invokevirtual 240, 3, []) := by decide +kernel
theorem i202_69 : lk (mi_ins m202) 69 = some (.istore 4, 2, []) := by decide +kernel
theorem i202_71 : lk (mi_ins m202) 71 = some (.aload_n 0, 1, []) := by decide +kernel
theorem i202_72 : lk (mi_ins m202) 72 = some (.getfield 83, 3, []) := by decide +kernel
theorem i202_75 : lk (mi_ins m202) 75 = some (.iconst 5, 1, []) := by decide +kernel
theorem i202_76 : lk (mi_ins m202) 76 = some (.if_icmp .ne 4, 3, []) := by decide +kernel
theorem i202_79 : lk (mi_ins m202) 79 = some (.return_, 1, []) := by decide +kernel
theorem i202_80 : lk (mi_ins m202) 80 = some (.aload_n 0, 1, []) := by decide +kernel
theorem i202_81 : lk (mi_ins m202) 81 = some (.lload_n 1, 1, []) := by decide +kernel
theorem i202_82 : lk (mi_ins m202) 82 = some (.iconst 0, 1, []) := by decide +kernel
theorem i202_83 : lk (mi_ins m202) 83 = some (.aload_n 0, 1, []) := by decide +kernel
theorem i202_84 : lk (mi_ins m202) 84 = some (.getfield 160, 3, []) := by decide +kernel
theorem i202_87 : lk (mi_ins m202) 87 = some (.getfield 209, 3, []) := by decide +kernel
theorem i202_90 : lk (mi_ins m202) 90 = some (.invokevirtual 258, 3, []) := by decide +kernel
theorem i202_93 : lk (mi_ins m202) 93 = some (.aload_n 0, 1, []) := by decide +kernel
theorem i202_94 : lk (mi_ins m202) 94 = some (.getfield 160, 3, []) := by decide +kernel
theorem i202_97 : lk (mi_ins m202) 97 = some (.getfield 261, 3, []) := by decide +kernel
theorem i202_100 : lk (mi_ins m202) 100 = some (.aload_n 0, 1, []) := by decide +kernel
theorem i202_101 : lk (mi_ins m202) 101 = some (.getfield 160, 3, []) := by decide +kernel
theorem i202_104 : lk (mi_ins m202) 104 = some (.getfield 209, 3, []) := by decide +kernel
theorem i202_107 : lk (mi_ins m202) 107 = some (.iload_n 3, 1, []) := by decide +kernel
theorem i202_108 : lk (mi_ins m202) 108 = some (.iastore, 1, []) := by decide +kernel
theorem i202_109 : lk (mi_ins m202) 109 = some (.aload_n 0, 1, []) := by decide +kernel
theorem i202_110 : lk (mi_ins m202) 110 = some (.getfield 160, 3, []) := by decide +kernel
theorem i202_113 : lk (mi_ins m202) 113 = some (.getfield 264, 3, []) := by decide +kernel
theorem i202_116 : lk (mi_ins m202) 116 = some (.aload_n 0, 1, []) := by decide +kernel
theorem i202_117 : lk (mi_ins m202) 117 = some (.getfield 160, 3, []) := by decide +kernel
theorem i202_120 : lk (mi_ins m202) 120 = some (.getfield 209, 3, []) := by decide +kernel
theorem i202_123 : lk (mi_ins m202) 123 = some (.iload 4, 2, []) := by decide +kernel
theorem i202_125 : lk (mi_ins m202) 125 = some (.iastore, 1, []) := by decide +kernel
theorem i202_126 : lk (mi_ins m202) 126 = some (.aload_n 0, 1, []) := by decide +kernel
theorem i202_127 : lk (mi_ins m202) 127 = some (.getfield 160, 3, []) := by decide +kernel
theorem i202_130 : lk (mi_ins m202) 130 = some (.dup, 1, []) := by decide +kernel
theorem i202_131 : lk (mi_ins m202) 131 = some (.getfield 209, 3, []) := by decide +kernel
theorem i202_134 : lk (mi_ins m202) 134 = some (.iconst 1, 1, []) := by decide +kernel
theorem i202_135 : lk (mi_ins m202) 135 = some (.iadd, 1, []) := by decide +kernel
theorem i202_136 : lk (mi_ins m202) 136 = some (.putfield 209, 3, []) := by decide +kernel
theorem i202_139 : lk (mi_ins m202) 139 = some (.return_, 1, []) := by decide +kernel
theorem i203_0 : lk (mi_ins m203) 0 = some (.iload_n 1, 1, []) := by decide +kernel
theorem i203_1 : lk (mi_ins m203) 1 = some (.iload_n 2, 1, []) := by decide +kernel
theorem i203_2 : lk (mi_ins m203) 2 = some (.if_icmp .ne 8, 3, []) := by decide +kernel
theorem i203_5 : lk (mi_ins m203) 5 = some (.aload_n 0, 1, []) := by decide +kernel
theorem i203_6 : lk (mi_ins m203) 6 = some (.iconst 5, 1, []) := by decide +kernel
theorem i203_7 : lk (mi_ins m203) 7 = some (.invokevirtual 126, 3, []) := by decide +kernel
theorem i203_10 : lk (mi_ins m203) 10 = some (.aload_n 0, 1, [1, 2]) := by decide +kernel
theorem i203_11 : lk (mi_ins m203) 11 = some (.getfield 160, 3, []) := by decide +kernel
theorem i203_14 : lk (mi_ins m203) 14 = some (.getfield 164, 3, []) := by decide +kernel
theorem i203_17 : lk (mi_ins m203) 17 = some (.iconst (-1), 1, []) := by decide +kernel
theorem i203_18 : lk (mi_ins m203) 18 = some (.if_icmp .ne 9, 3, []) := by decide +kernel
theorem i203_21 : lk (mi_ins m203) 21 = some (.aload_n 0, 1, []) := by decide +kernel
theorem i203_22 : lk (mi_ins m203) 22 = some (.bipush 6, 2, []) := by decide +kernel
theorem i203_24 : lk (mi_ins m203) 24 = some (.invokevirtual 126, 3, []) := by decide +kernel
theorem i203_27 : lk (mi_ins m203) 27 = some (.aload_n 0, 1, [1, 2]) := by decide +kernel
theorem i203_28 : lk (mi_ins m203) 28 = some (.invokevirtual 119, 3, []) := by decide +kernel
theorem i203_31 : lk (mi_ins m203) 31 = some (.return_, 1, []) := by decide +kernel
theorem i204_0 : lk (mi_ins m204) 0 = some (.aload_n 0, 1, []) := by decide +kernel
theorem i204_1 : lk (mi_ins m204) 1 = some (.invokevirtual 169, 3, []) := by decide +kernel
theorem i204_4 : lk (mi_ins m204) 4 = some (.ifCond .ne 8, 3, []) := by decide +kernel
theorem i204_7 : lk (mi_ins m204) 7 = some (.aload_n 0, 1, []) := by decide +kernel
theorem i204_8 : lk (mi_ins m204) 8 = some (.iconst 1, 1, []) := by decide +kernel
theorem i204_9 : lk (mi_ins m204) 9 = some (.invokevirtual 126, 3, []) := by decide +kernel
theorem i204_12 : lk (mi_ins m204) 12 = some (.aload_n 0, 1, [1, 2]) := by decide +kernel
theorem i204_13 : lk (mi_ins m204) 13 = some (.getfield 160, 3, []) := by decide +kernel
theorem i204_16 : lk (mi_ins m204) 16 = some (.aload_n 0, 1, []) := by decide +kernel
theorem i204_17 : lk (mi_ins m204) 17 = some (.getfield 99, 3, []) := by decide +kernel
theorem i204_20 : lk (mi_ins m204) 20 = some (.invokevirtual 173, 3, []) := by decide +kernel
theorem i204_23 : lk (mi_ins m204) 23 = some (.iconst (-1), 1, []) := by decide +kernel
theorem i204_24 : lk (mi_ins m204) 24 = some (.if_icmp .eq 8, 3, []) := by decide +kernel
theorem i204_27 : lk (mi_ins m204) 27 = some (.aload_n 0, 1, []) := by decide +kernel
theorem i204_28 : lk (mi_ins m204) 28 = some (.iconst 3, 1, []) := by decide +kernel
theorem i204_29 : lk (mi_ins m204) 29 = some (.invokevirtual 126, 3, []) := by decide +kernel
theorem i204_32 : lk (mi_ins m204) 32 = some (.aload_n 0, 1, [1, 2]) := by decide +kernel
theorem i204_33 : lk (mi_ins m204) 33 = some (.getfield 99, 3, []) := by decide +kernel
theorem i204_36 : lk (mi_ins m204) 36 = some (.lstore_n 1, 1, []) := by decide +kernel
theorem i204_37 : lk (mi_ins m204) 37 = some (.aload_n 0, 1, []) := by decide +kernel
theorem i204_38 : lk (mi_ins m204) 38 = some (.invokevirtual 119, 3, []) := by decide +kernel
theorem i204_41 : lk (mi_ins m204) 41 = some (.lload_n 1, 1, []) := by decide +kernel
theorem i204_42 : lk (mi_ins m204) 42 = some (.lreturn, 1, []) := by decide +kernel
theorem i205_0 : lk (mi_ins m205) 0 = some (.aload_n 0, 1, []) := by decide +kernel
theorem i205_1 : lk (mi_ins m205) 1 = some (.getfield 83, 3, []) := by decide +kernel
theorem i205_4 : lk (mi_ins m205) 4 = some (.iconst 2, 1, []) := by decide +kernel
theorem i205_5 : lk (mi_ins m205) 5 = some (.if_icmp .ne 48, 3, []) := by decide +kernel
theorem i205_8 : lk (mi_ins m205) 8 = some (.aload_n 0, 1, []) := by decide +kernel
theorem i205_9 : lk (mi_ins m205) 9 = some (.ldc 142, 2, []) := by decide +kernel
theorem i205_11 : lk (mi_ins m205) 11 = some (.invokevirtual 122, 3, []) := by decide +kernel
theorem i205_14 : lk (mi_ins m205) 14 = some (.ifCond .ne 39, 3, []) := by decide +kernel
theorem i205_17 : lk (mi_ins m205) 17 = some (.aload_n 0, 1, []) := by decide +kernel
theorem i205_18 : lk (mi_ins m205) 18 = some (.ldc 144, 2, []) := by decide +kernel
theorem i205_20 : lk (mi_ins m205) 20 = some (.invokevirtual 122, 3, []) := by decide +kernel
theorem i205_23 : lk (mi_ins m205) 23 = some (.ifCond .ne 30, 3, []) := by decide +kernel
theorem i205_26 : lk (mi_ins m205) 26 = some (.aload_n 0, 1, []) := by decide +kernel
theorem i205_27 : lk (mi_ins m205) 27 = some (.ldc 146, 2, []) := by decide +kernel
theorem i205_29 : lk (mi_ins m205) 29 = some (.invokevirtual 122, 3, []) := by decide +kernel
theorem i205_32 : lk (mi_ins m205) 32 = some (.ifCond .ne 21, 3, []) := by decide +kernel
theorem i205_35 : lk (mi_ins m205) 35 = some (.aload_n 0, 1, []) := by decide +kernel
theorem i205_36 : lk (mi_ins m205) 36 = some (.ldc 148, 2, []) := by decide +kernel
theorem i205_38 : lk (mi_ins m205) 38 = some (.invokevirtual 122, 3, []) := by decide +kernel
theorem i205_41 : lk (mi_ins m205) 41 = some (.ifCond .ne 12, 3, []) := by decide +kernel
theorem i205_44 : lk (mi_ins m205) 44 = some (.aload_n 0, 1, []) := by decide +kernel
theorem i205_45 : lk (mi_ins m205) 45 = some (.ldc 150, 2, []) := by decide +kernel
theorem i205_47 : lk (mi_ins m205) 47 = some (.invokevirtual 122, 3, []) := by decide +kernel
theorem i205_50 : lk (mi_ins m205) 50 = some (.ifCond .eq 5, 3, []) := by decide +kernel
theorem i205_53 : lk (mi_ins m205) 53 = some (.iconst 0, 1, [0]) := by decide +kernel
theorem i205_54 : lk (mi_ins m205) 54 = some (.ireturn, 1, []) := by decide +kernel
theorem i205_55 : lk (mi_ins m205) 55 = some (.aload_n 0, 1, []) := by decide +kernel
theorem i205_56 : lk (mi_ins m205) 56 = some (.ldc 152, 2, []) := by decide +kernel
theorem i205_58 : lk (mi_ins m205) 58 = some (.invokevirtual 122, 3, []) := by decide +kernel
theorem i205_61 : lk (mi_ins m205) 61 = some (.ifCond .ne 34, 3, []) := by decide +kernel
theorem i205_64 : lk (mi_ins m205) 64 = some (.aload_n 0, 1, []) := by decide +kernel
theorem i205_65 : lk (mi_ins m205) 65 = some (.ldc 154, 2, []) := by decide +kernel
theorem i205_67 : lk (mi_ins m205) 67 = some (.invokevirtual 122, 3, []) := by decide +kernel
theorem i205_70 : lk (mi_ins m205) 70 = some (.ifCond .ne 25, 3, []) := by decide +kernel
theorem i205_73 : lk (mi_ins m205) 73 = some (.aload_n 0, 1, []) := by decide +kernel
theorem i205_74 : lk (mi_ins m205) 74 = some (.ldc 156, 2, []) := by decide +kernel
theorem i205_76 : lk (mi_ins m205) 76 = some (.invokevirtual 122, 3, []) := by decide +kernel
theorem i205_79 : lk (mi_ins m205) 79 = some (.ifCond .ne 16, 3, []) := by decide +kernel
theorem i205_82 : lk (mi_ins m205) 82 = some (.aload_n 0, 1, []) := by decide +kernel
theorem i205_83 : lk (mi_ins m205) 83 = some (.ldc 158, 2, []) := by decide +kernel
theorem i205_85 : lk (mi_ins m205) 85 = some (.invokevirtual 122, 3, []) := by decide +kernel
theorem i205_88 : lk (mi_ins m205) 88 = some (.ifCond .ne 7, 3, []) := by decide +kernel
theorem i205_91 : lk (mi_ins m205) 91 = some (.iconst 1, 1, []) := by decide +kernel
theorem i205_92 : lk (mi_ins m205) 92 = some (.goto 4, 3, []) := by decide +kernel
theorem i205_95 : lk (mi_ins m205) 95 = some (.iconst 0, 1, [0]) := by decide +kernel
theorem i205_96 : lk (mi_ins m205) 96 = some (.ireturn, 1, [0]) := by decide +kernel
theorem i206_0 : lk (mi_ins m206) 0 = some (.iconst 0, 1, []) := by decide +kernel
theorem i206_1 : lk (mi_ins m206) 1 = some (.istore_n 3, 1, []) := by decide +kernel
theorem i206_2 : lk (mi_ins m206) 2 = some (.iload_n 3, 1, [2]) := by decide +kernel
theorem i206_3 : lk (mi_ins m206) 3 = some (.aload_n 0, 1, []) := by decide +kernel
theorem i206_4 : lk (mi_ins m206) 4 = some (.getfield 80, 3, []) := by decide +kernel
theorem i206_7 : lk (mi_ins m206) 7 = some (.if_icmp .ge 22, 3, []) := by decide +kernel
theorem i206_10 : lk (mi_ins m206) 10 = some (.aload_n 0, 1, []) := by decide +kernel
theorem i206_11 : lk (mi_ins m206) 11 = some (.getfield 70, 3, []) := by decide +kernel
theorem i206_14 : lk (mi_ins m206) 14 = some (.iload_n 3, 1, []) := by decide +kernel
theorem i206_15 : lk (mi_ins m206) 15 = some (.laload, 1, []) := by decide +kernel
theorem i206_16 : lk (mi_ins m206) 16 = some (.lload_n 1, 1, []) := by decide +kernel
theorem i206_17 : lk (mi_ins m206) 17 = some (.lcmp, 1, []) := by decide +kernel
theorem i206_18 : lk (mi_ins m206) 18 = some (.ifCond .ne 5, 3, []) := by decide +kernel
theorem i206_21 : lk (mi_ins m206) 21 = some (.iload_n 3, 1, []) := by decide +kernel
theorem i206_22 : lk (mi_ins m206) 22 = some (.ireturn, 1, []) := by decide +kernel
theorem i206_23 : lk (mi_ins m206) 23 = some (.iinc 3 1, 3, []) := by decide +kernel
theorem i206_26 : lk (mi_ins m206) 26 = some (.goto (-24), 3, []) := by decide +kernel
theorem i206_29 : lk (mi_ins m206) 29 = some (.iconst (-1), 1, [0, 1, 2, 3]) := by decide +kernel
theorem i206_30 : lk (mi_ins m206) 30 = some (.ireturn, 1, []) := by decide +kernel
theorem i207_0 : lk (mi_ins m207) 0 = some (.aload_n 0, 1, []) := by decide +kernel
theorem i207_1 : lk (mi_ins m207) 1 = some (.getfield 160, 3, []) := by decide +kernel
theorem i207_4 : lk (mi_ins m207) 4 = some (.getfield 177, 3, []) := by decide +kernel
theorem i207_7 : lk (mi_ins m207) 7 = some (.aload_n 0, 1, []) := by decide +kernel
theorem i207_8 : lk (mi_ins m207) 8 = some (.getfield 160, 3, []) := by decide +kernel
theorem i207_11 : lk (mi_ins m207) 11 = some (.getfield 181, 3, []) := by decide +kernel
theorem i207_14 : lk (mi_ins m207) 14 = some (.lload_n 1, 1, []) := by decide +kernel
theorem i207_15 : lk (mi_ins m207) 15 = some (.lastore, 1, []) := by decide +kernel
theorem i207_16 : lk (mi_ins m207) 16 = some (.aload_n 0, 1, []) := by decide +kernel
theorem i207_17 : lk (mi_ins m207) 17 = some (.getfield 160, 3, []) := by decide +kernel
theorem i207_20 : lk (mi_ins m207) 20 = some (.getfield 184, 3, []) := by decide +kernel
theorem i207_23 : lk (mi_ins m207) 23 = some (.aload_n 0, 1, []) := by decide +kernel
theorem i207_24 : lk (mi_ins m207) 24 = some (.getfield 160, 3, []) := by decide +kernel
theorem i207_27 : lk (mi_ins m207) 27 = some (.getfield 181, 3, []) := by decide +kernel
theorem i207_30 : lk (mi_ins m207) 30 = some (.iload_n 3, 1, []) := by decide +kernel
theorem i207_31 : lk (mi_ins m207) 31 = some (.iastore, 1, []) := by decide +kernel
theorem i207_32 : lk (mi_ins m207) 32 = some (.aload_n 0, 1, []) := by decide +kernel
theorem i207_33 : lk (mi_ins m207) 33 = some (.getfield 160, 3, []) := by decide +kernel
theorem i207_36 : lk (mi_ins m207) 36 = some (.getfield 187, 3, []) := by decide +kernel
theorem i207_39 : lk (mi_ins m207) 39 = some (.aload_n 0, 1, []) := by decide +kernel
theorem i207_40 : lk (mi_ins m207) 40 = some (.getfield 160, 3, []) := by decide +kernel
theorem i207_43 : lk (mi_ins m207) 43 = some (.getfield 181, 3, []) := by decide +kernel
theorem i207_46 : lk (mi_ins m207) 46 = some (.iload 4, 2, []) := by decide +kernel
theorem i207_48 : lk (mi_ins m207) 48 = some (.iastore, 1, []) := by decide +kernel
theorem i207_49 : lk (mi_ins m207) 49 = some (.aload_n 0, 1, []) := by decide +kernel
theorem i207_50 : lk (mi_ins m207) 50 = some (.getfield 160, 3, []) := by decide +kernel
theorem i207_53 : lk (mi_ins m207) 53 = some (.dup, 1, []) := by decide +kernel
theorem i207_54 : lk (mi_ins m207) 54 = some (.getfield 181, 3, []) := by decide +kernel
theorem i207_57 : lk (mi_ins m207) 57 = some (.iconst 1, 1, []) := by decide +kernel
theorem i207_58 : lk (mi_ins m207) 58 = some (.iadd, 1, []) := by decide +kernel
theorem i207_59 : lk (mi_ins m207) 59 = some (.putfield 181, 3, []) := by decide +kernel
theorem i207_62 : lk (mi_ins m207) 62 = some (.return_, 1, []) := by decide +kernel
theorem i208_0 : lk (mi_ins m208) 0 = some (.aload_n 0, 1, []) := by decide +kernel
theorem i208_1 : lk (mi_ins m208) 1 = some (.aload_n 0, 1, []) := by decide +kernel
theorem i208_2 : lk (mi_ins m208) 2 = some (.getfield 160, 3, []) := by decide +kernel
theorem i208_5 : lk (mi_ins m208) 5 = some (.getfield 266, 3, []) := by decide +kernel
theorem i208_8 : lk (mi_ins m208) 8 = some (.iconst 5, 1, []) := by decide +kernel
theorem i208_9 : lk (mi_ins m208) 9 = some (.invokevirtual 244, 3, []) := by decide +kernel
theorem i208_12 : lk (mi_ins m208) 12 = some (.aload_n 0, 1, []) := by decide +kernel
theorem i208_13 : lk (mi_ins m208) 13 = some (.iconst 0, 1, []) := by decide +kernel
theorem i208_14 : lk (mi_ins m208) 14 = some (.invokevirtual 269, 3, []) := by decide +kernel
theorem i208_17 : lk (mi_ins m208) 17 = some (.istore_n 1, 1, []) := by decide +kernel
theorem i208_18 : lk (mi_ins m208) 18 = some (.aload_n 0, 1, []) := by decide +kernel
theorem i208_19 : lk (mi_ins m208) 19 = some (.iconst 0, 1, []) := by decide +kernel
theorem i208_20 : lk (mi_ins m208) 20 = some (.invokevirtual 190, 3, []) := by decide +kernel
theorem i208_23 : lk (mi_ins m208) 23 = some (.istore_n 2, 1, []) := by decide +kernel
theorem i208_24 : lk (mi_ins m208) 24 = some (.aload_n 0, 1, []) := by decide +kernel
theorem i208_25 : lk (mi_ins m208) 25 = some (.getfield 83, 3, []) := by decide +kernel
theorem i208_28 : lk (mi_ins m208) 28 = some (.iconst 5, 1, []) := by decide +kernel
theorem i208_29 : lk (mi_ins m208) 29 = some (.if_icmp .eq 25, 3, []) := by decide +kernel
theorem i208_32 : lk (mi_ins m208) 32 = some (.iload_n 1, 1, []) := by decide +kernel
theorem i208_33 : lk (mi_ins m208) 33 = some (.iload_n 2, 1, []) := by decide +kernel
theorem i208_34 : lk (mi_ins m208) 34 = some (.if_icmp .eq 15, 3, []) := by decide +kernel
theorem i208_37 : lk (mi_ins m208) 37 = some (.aload_n 0, 1, []) := by decide +kernel
theorem i208_38 : lk (mi_ins m208) 38 = some (.getfield 160, 3, []) := by decide +kernel
theorem i208_41 : lk (mi_ins m208) 41 = some (.iload_n 1, 1, []) := by decide +kernel
theorem i208_42 : lk (mi_ins m208) 42 = some (.iload_n 2, 1, []) := by decide +kernel
theorem i208_43 : lk (mi_ins m208) 43 = some (.invokevirtual 272, 3, []) := by decide +kernel
theorem i208_46 : lk (mi_ins m208) 46 = some (.ifCond .eq 8, 3, []) := by decide +kernel
theorem i208_49 : lk (mi_ins m208) 49 = some (.aload_n 0, 1, []) := by decide +kernel
theorem i208_50 : lk (mi_ins m208) 50 = some (.iconst 3, 1, []) := by decide +kernel
theorem i208_51 : lk (mi_ins m208) 51 = some (.invokevirtual 126, 3, []) := by decide +kernel
theorem i208_54 : lk (mi_ins m208) 54 = some (.aload_n 0, 1, []) := by decide +kernel
theorem i208_55 : lk (mi_ins m208) 55 = some (.invokevirtual 119, 3, []) := by decide +kernel
theorem i208_58 : lk (mi_ins m208) 58 = some (.aload_n 0, 1, []) := by decide +kernel
theorem i208_59 : lk (mi_ins m208) 59 = some (.getfield 83, 3, []) := by decide +kernel
theorem i208_62 : lk (mi_ins m208) 62 = some (.iconst 5, 1, []) := by decide +kernel
theorem i208_63 : lk (mi_ins m208) 63 = some (.if_icmp .ne 4, 3, []) := by decide +kernel
theorem i208_66 : lk (mi_ins m208) 66 = some (.return_, 1, []) := by decide +kernel
theorem i208_67 : lk (mi_ins m208) 67 = some (.aload_n 0, 1, []) := by decide +kernel
theorem i208_68 : lk (mi_ins m208) 68 = some (.getfield 160, 3, []) := by decide +kernel
theorem i208_71 : lk (mi_ins m208) 71 = some (.getfield 276, 3, []) := by decide +kernel
theorem i208_74 : lk (mi_ins m208) 74 = some (.aload_n 0, 1, []) := by decide +kernel
theorem i208_75 : lk (mi_ins m208) 75 = some (.getfield 160, 3, []) := by decide +kernel
theorem i208_78 : lk (mi_ins m208) 78 = some (.getfield 266, 3, []) := by decide +kernel
theorem i208_81 : lk (mi_ins m208) 81 = some (.iload_n 1, 1, []) := by decide +kernel
theorem i208_82 : lk (mi_ins m208) 82 = some (.iload_n 2, 1, []) := by decide +kernel
theorem i208_83 : lk (mi_ins m208) 83 = some (.if_icmp .ge 7, 3, []) := by decide +kernel
theorem i208_86 : lk (mi_ins m208) 86 = some (.iload_n 1, 1, []) := by decide +kernel
theorem i208_87 : lk (mi_ins m208) 87 = some (.goto 4, 3, []) := by decide +kernel
theorem i208_90 : lk (mi_ins m208) 90 = some (.iload_n 2, 1, []) := by decide +kernel
theorem i208_91 : lk (mi_ins m208) 91 = some (.iastore, 1, []) := by decide +kernel
theorem i208_92 : lk (mi_ins m208) 92 = some (.aload_n 0, 1, []) := by decide +kernel
theorem i208_93 : lk (mi_ins m208) 93 = some (.getfield 160, 3, []) := by decide +kernel
theorem i208_96 : lk (mi_ins m208) 96 = some (.getfield 279, 3, []) := by decide +kernel
theorem i208_99 : lk (mi_ins m208) 99 = some (.aload_n 0, 1, []) := by decide +kernel
theorem i208_100 : lk (mi_ins m208) 100 = some (.getfield 160, 3, []) := by decide +kernel
theorem i208_103 : lk (mi_ins m208) 103 = some (.getfield 266, 3, []) := by decide +kernel
theorem i208_106 : lk (mi_ins m208) 106 = some (.iload_n 1, 1, []) := by decide +kernel
theorem i208_107 : lk (mi_ins m208) 107 = some (.iload_n 2, 1, []) := by decide +kernel
theorem i208_108 : lk (mi_ins m208) 108 = some (.if_icmp .ge 7, 3, []) := by decide +kernel
theorem i208_111 : lk (mi_ins m208) 111 = some (.iload_n 2, 1, []) := by decide +kernel
theorem i208_112 : lk (mi_ins m208) 112 = some (.goto 4, 3, []) := by decide +kernel
theorem i208_115 : lk (mi_ins m208) 115 = some (.iload_n 1, 1, []) := by decide +kernel
theorem i208_116 : lk (mi_ins m208) 116 = some (.iastore, 1, [1, 2]) := by decide +kernel
theorem i208_117 : lk (mi_ins m208) 117 = some (.aload_n 0, 1, []) := by decide +kernel
theorem i208_118 : lk (mi_ins m208) 118 = some (.getfield 160, 3, []) := by decide +kernel
theorem i208_121 : lk (mi_ins m208) 121 = some (.dup, 1, []) := by decide +kernel
theorem i208_122 : lk (mi_ins m208) 122 = some (.getfield 266, 3, []) := by decide +kernel
theorem i208_125 : lk (mi_ins m208) 125 = some (.iconst 1, 1, []) := by decide +kernel
theorem i208_126 : lk (mi_ins m208) 126 = some (.iadd, 1, []) := by decide +kernel
theorem i208_127 : lk (mi_ins m208) 127 = some (.putfield 266, 3, []) := by decide +kernel
theorem i208_130 : lk (mi_ins m208) 130 = some (.return_, 1, []) := by decide +kernel
theorem i209_0 : lk (mi_ins m209) 0 = some (.aload_n 0, 1, []) := by decide +kernel
theorem i209_1 : lk (mi_ins m209) 1 = some (.iload_n 1, 1, []) := by decide +kernel
theorem i209_2 : lk (mi_ins m209) 2 = some (.invokevirtual 190, 3, []) := by decide +kernel
theorem i209_5 : lk (mi_ins m209) 5 = some (.istore_n 2, 1, []) := by decide +kernel
theorem i209_6 : lk (mi_ins m209) 6 = some (.aload_n 0, 1, []) := by decide +kernel
theorem i209_7 : lk (mi_ins m209) 7 = some (.invokevirtual 119, 3, []) := by decide +kernel
theorem i209_10 : lk (mi_ins m209) 10 = some (.iload_n 2, 1, []) := by decide +kernel
theorem i209_11 : lk (mi_ins m209) 11 = some (.ireturn, 1, []) := by decide +kernel
theorem i210_0 : lk (mi_ins m210) 0 = some (.aload_n 0, 1, []) := by decide +kernel
theorem i210_1 : lk (mi_ins m210) 1 = some (.invokevirtual 169, 3, []) := by decide +kernel
theorem i210_4 : lk (mi_ins m210) 4 = some (.ifCond .ne 8, 3, []) := by decide +kernel
theorem i210_7 : lk (mi_ins m210) 7 = some (.aload_n 0, 1, []) := by decide +kernel
theorem i210_8 : lk (mi_ins m210) 8 = some (.iconst 1, 1, []) := by decide +kernel
theorem i210_9 : lk (mi_ins m210) 9 = some (.invokevirtual 126, 3, []) := by decide +kernel
theorem i210_12 : lk (mi_ins m210) 12 = some (.aload_n 0, 1, [2]) := by decide +kernel
theorem i210_13 : lk (mi_ins m210) 13 = some (.getfield 160, 3, []) := by decide +kernel
theorem i210_16 : lk (mi_ins m210) 16 = some (.aload_n 0, 1, []) := by decide +kernel
theorem i210_17 : lk (mi_ins m210) 17 = some (.getfield 99, 3, []) := by decide +kernel
theorem i210_20 : lk (mi_ins m210) 20 = some (.invokevirtual 173, 3, []) := by decide +kernel
theorem i210_23 : lk (mi_ins m210) 23 = some (.istore_n 2, 1, []) := by decide +kernel
theorem i210_24 : lk (mi_ins m210) 24 = some (.iload_n 2, 1, []) := by decide +kernel
theorem i210_25 : lk (mi_ins m210) 25 = some (.iconst (-1), 1, []) := by decide +kernel
theorem i210_26 : lk (mi_ins m210) 26 = some (.if_icmp .eq 16, 3, []) := by decide +kernel
theorem i210_29 : lk (mi_ins m210) 29 = some (.aload_n 0, 1, []) := by decide +kernel
theorem i210_30 : lk (mi_ins m210) 30 = some (.getfield 160, 3, []) := by decide +kernel
theorem i210_33 : lk (mi_ins m210) 33 = some (.getfield 184, 3, []) := by decide +kernel
theorem i210_36 : lk (mi_ins m210) 36 = some (.iload_n 2, 1, []) := by decide +kernel
theorem i210_37 : lk (mi_ins m210) 37 = some (.iaload, 1, []) := by decide +kernel
theorem i210_38 : lk (mi_ins m210) 38 = some (.iload_n 1, 1, []) := by decide +kernel
theorem i210_39 : lk (mi_ins m210) 39 = some (.if_icmp .eq 8, 3, []) := by decide +kernel
theorem i210_42 : lk (mi_ins m210) 42 = some (.aload_n 0, 1, [1]) := by decide +kernel
theorem i210_43 : lk (mi_ins m210) 43 = some (.iconst 2, 1, []) := by decide +kernel
theorem i210_44 : lk (mi_ins m210) 44 = some (.invokevirtual 126, 3, []) := by decide +kernel
theorem i210_47 : lk (mi_ins m210) 47 = some (.aload_n 0, 1, [1]) := by decide +kernel
theorem i210_48 : lk (mi_ins m210) 48 = some (.getfield 83, 3, []) := by decide +kernel
theorem i210_51 : lk (mi_ins m210) 51 = some (.iconst 5, 1, []) := by decide +kernel
theorem i210_52 : lk (mi_ins m210) 52 = some (.if_icmp .ne 7, 3, []) := by decide +kernel
theorem i210_55 : lk (mi_ins m210) 55 = some (.iconst 0, 1, []) := by decide +kernel
theorem i210_56 : lk (mi_ins m210) 56 = some (.goto 12, 3, []) := by decide +kernel
theorem i210_59 : lk (mi_ins m210) 59 = some (.aload_n 0, 1, []) := by decide +kernel
theorem i210_60 : lk (mi_ins m210) 60 = some (.getfield 160, 3, []) := by decide +kernel
theorem i210_63 : lk (mi_ins m210) 63 = some (.getfield 187, 3, []) := by decide +kernel
theorem i210_66 : lk (mi_ins m210) 66 = some (.iload_n 2, 1, []) := by decide +kernel
theorem i210_67 : lk (mi_ins m210) 67 = some (.iaload, 1, []) := by decide +kernel
theorem i210_68 : lk (mi_ins m210) 68 = some (.ireturn, 1, [0, 1, 2]) := by decide +kernel
theorem i211_0 : lk (mi_ins m211) 0 = some (.iconst 0, 1, []) := by decide +kernel
theorem i211_1 : lk (mi_ins m211) 1 = some (.istore_n 3, 1, []) := by decide +kernel
theorem i211_2 : lk (mi_ins m211) 2 = some (.iload_n 3, 1, []) := by decide +kernel
theorem i211_3 : lk (mi_ins m211) 3 = some (.aload_n 0, 1, []) := by decide +kernel
theorem i211_4 : lk (mi_ins m211) 4 = some (.getfield 83, 3, []) := by decide +kernel
theorem i211_7 : lk (mi_ins m211) 7 = some (.if_icmp .ge 51, 3, []) := by decide +kernel
theorem i211_10 : lk (mi_ins m211) 10 = some (.aload_n 0, 1, []) := by decide +kernel
theorem i211_11 : lk (mi_ins m211) 11 = some (.getfield 28, 3, []) := by decide +kernel
theorem i211_14 : lk (mi_ins m211) 14 = some (.iload_n 3, 1, []) := by decide +kernel
theorem i211_15 : lk (mi_ins m211) 15 = some (.iaload, 1, []) := by decide +kernel
theorem i211_16 : lk (mi_ins m211) 16 = some (.iload_n 1, 1, []) := by decide +kernel
theorem i211_17 : lk (mi_ins m211) 17 = some (.if_icmp .ne 13, 3, []) := by decide +kernel
theorem i211_20 : lk (mi_ins m211) 20 = some (.aload_n 0, 1, []) := by decide +kernel
theorem i211_21 : lk (mi_ins m211) 21 = some (.getfield 31, 3, []) := by decide +kernel
theorem i211_24 : lk (mi_ins m211) 24 = some (.iload_n 3, 1, []) := by decide +kernel
theorem i211_25 : lk (mi_ins m211) 25 = some (.iaload, 1, []) := by decide +kernel
theorem i211_26 : lk (mi_ins m211) 26 = some (.iload_n 2, 1, []) := by decide +kernel
theorem i211_27 : lk (mi_ins m211) 27 = some (.if_icmp .eq 23, 3, []) := by decide +kernel
theorem i211_30 : lk (mi_ins m211) 30 = some (.aload_n 0, 1, []) := by decide +kernel
theorem i211_31 : lk (mi_ins m211) 31 = some (.getfield 28, 3, []) := by decide +kernel
theorem i211_34 : lk (mi_ins m211) 34 = some (.iload_n 3, 1, []) := by decide +kernel
theorem i211_35 : lk (mi_ins m211) 35 = some (.iaload, 1, []) := by decide +kernel
theorem i211_36 : lk (mi_ins m211) 36 = some (.iload_n 2, 1, []) := by decide +kernel
theorem i211_37 : lk (mi_ins m211) 37 = some (.if_icmp .ne 15, 3, []) := by decide +kernel
theorem i211_40 : lk (mi_ins m211) 40 = some (.aload_n 0, 1, []) := by decide +kernel
theorem i211_41 : lk (mi_ins m211) 41 = some (.getfield 31, 3, []) := by decide +kernel
theorem i211_44 : lk (mi_ins m211) 44 = some (.iload_n 3, 1, []) := by decide +kernel
theorem i211_45 : lk (mi_ins m211) 45 = some (.iaload, 1, []) := by decide +kernel
theorem i211_46 : lk (mi_ins m211) 46 = some (.iload_n 1, 1, []) := by decide +kernel
theorem i211_47 : lk (mi_ins m211) 47 = some (.if_icmp .ne 5, 3, []) := by decide +kernel
theorem i211_50 : lk (mi_ins m211) 50 = some (.iconst 1, 1, [0, 1, 2, 3]) := by decide +kernel
theorem i211_51 : lk (mi_ins m211) 51 = some (.ireturn, 1, []) := by decide +kernel
theorem i211_52 : lk (mi_ins m211) 52 = some (.iinc 3 1, 3, []) := by decide +kernel
theorem i211_55 : lk (mi_ins m211) 55 = some (.goto (-53), 3, []) := by decide +kernel
theorem i211_58 : lk (mi_ins m211) 58 = some (.iconst 0, 1, [0, 1, 2, 3]) := by decide +kernel
theorem i211_59 : lk (mi_ins m211) 59 = some (.ireturn, 1, []) := by decide +kernel
theorem i212_0 : lk (mi_ins m212) 0 = some (.aload_n 0, 1, []) := by decide +kernel
theorem i212_1 : lk (mi_ins m212) 1 = some (.iconst 0, 1, []) := by decide +kernel
theorem i212_2 : lk (mi_ins m212) 2 = some (.iconst 1, 1, []) := by decide +kernel
theorem i212_3 : lk (mi_ins m212) 3 = some (.invokevirtual 244, 3, []) := by decide +kernel
theorem i212_6 : lk (mi_ins m212) 6 = some (.aload_n 0, 1, []) := by decide +kernel
theorem i212_7 : lk (mi_ins m212) 7 = some (.iconst 0, 1, []) := by decide +kernel
theorem i212_8 : lk (mi_ins m212) 8 = some (.invokevirtual 269, 3, []) := by decide +kernel
theorem i212_11 : lk (mi_ins m212) 11 = some (.istore_n 1, 1, []) := by decide +kernel
theorem i212_12 : lk (mi_ins m212) 12 = some (.aload_n 0, 1, []) := by decide +kernel
theorem i212_13 : lk (mi_ins m212) 13 = some (.invokevirtual 282, 3, []) := by decide +kernel
theorem i212_16 : lk (mi_ins m212) 16 = some (.istore_n 2, 1, []) := by decide +kernel
theorem i212_17 : lk (mi_ins m212) 17 = some (.aload_n 0, 1, []) := by decide +kernel
theorem i212_18 : lk (mi_ins m212) 18 = some (.getfield 83, 3, []) := by decide +kernel
theorem i212_21 : lk (mi_ins m212) 21 = some (.iconst 5, 1, []) := by decide +kernel
theorem i212_22 : lk (mi_ins m212) 22 = some (.if_icmp .eq 24, 3, []) := by decide +kernel
theorem i212_25 : lk (mi_ins m212) 25 = some (.aload_n 0, 1, []) := by decide +kernel
theorem i212_26 : lk (mi_ins m212) 26 = some (.getfield 160, 3, []) := by decide +kernel
theorem i212_29 : lk (mi_ins m212) 29 = some (.getfield 285, 3, []) := by decide +kernel
theorem i212_32 : lk (mi_ins m212) 32 = some (.iload_n 1, 1, []) := by decide +kernel
theorem i212_33 : lk (mi_ins m212) 33 = some (.iaload, 1, []) := by decide +kernel
theorem i212_34 : lk (mi_ins m212) 34 = some (.iload_n 2, 1, []) := by decide +kernel
theorem i212_35 : lk (mi_ins m212) 35 = some (.invokestatic 288, 3, []) := by decide +kernel
theorem i212_38 : lk (mi_ins m212) 38 = some (.ifCond .eq 8, 3, []) := by decide +kernel
theorem i212_41 : lk (mi_ins m212) 41 = some (.aload_n 0, 1, []) := by decide +kernel
theorem i212_42 : lk (mi_ins m212) 42 = some (.iconst 3, 1, []) := by decide +kernel
theorem i212_43 : lk (mi_ins m212) 43 = some (.invokevirtual 126, 3, []) := by decide +kernel
theorem i212_46 : lk (mi_ins m212) 46 = some (.aload_n 0, 1, [3]) := by decide +kernel
theorem i212_47 : lk (mi_ins m212) 47 = some (.invokevirtual 119, 3, []) := by decide +kernel
theorem i212_50 : lk (mi_ins m212) 50 = some (.aload_n 0, 1, []) := by decide +kernel
theorem i212_51 : lk (mi_ins m212) 51 = some (.iconst 1, 1, []) := by decide +kernel
theorem i212_52 : lk (mi_ins m212) 52 = some (.bipush 30, 2, []) := by decide +kernel
theorem i212_54 : lk (mi_ins m212) 54 = some (.invokevirtual 138, 3, []) := by decide +kernel
theorem i212_57 : lk (mi_ins m212) 57 = some (.istore_n 3, 1, []) := by decide +kernel
theorem i212_58 : lk (mi_ins m212) 58 = some (.aload_n 0, 1, []) := by decide +kernel
theorem i212_59 : lk (mi_ins m212) 59 = some (.getfield 83, 3, []) := by decide +kernel
theorem i212_62 : lk (mi_ins m212) 62 = some (.iconst 5, 1, []) := by decide +kernel
theorem i212_63 : lk (mi_ins m212) 63 = some (.if_icmp .ne 4, 3, []) := by decide +kernel
theorem i212_66 : lk (mi_ins m212) 66 = some (.return_, 1, []) := by decide +kernel
theorem i212_67 : lk (mi_ins m212) 67 = some (.aload_n 0, 1, []) := by decide +kernel
theorem i212_68 : lk (mi_ins m212) 68 = some (.getfield 160, 3, []) := by decide +kernel
theorem i212_71 : lk (mi_ins m212) 71 = some (.getfield 285, 3, []) := by decide +kernel
theorem i212_74 : lk (mi_ins m212) 74 = some (.iload_n 1, 1, []) := by decide +kernel
theorem i212_75 : lk (mi_ins m212) 75 = some (.dup2, 1, []) := by decide +kernel
theorem i212_76 : lk (mi_ins m212) 76 = some (.iaload, 1, []) := by decide +kernel
theorem i212_77 : lk (mi_ins m212) 77 = some (.iconst 1, 1, []) := by decide +kernel
theorem i212_78 : lk (mi_ins m212) 78 = some (.iload_n 2, 1, []) := by decide +kernel
theorem i212_79 : lk (mi_ins m212) 79 = some (.ishl, 1, []) := by decide +kernel
theorem i212_80 : lk (mi_ins m212) 80 = some (.ior, 1, []) := by decide +kernel
theorem i212_81 : lk (mi_ins m212) 81 = some (.iastore, 1, []) := by decide +kernel
theorem i212_82 : lk (mi_ins m212) 82 = some (.aload_n 0, 1, []) := by decide +kernel
theorem i212_83 : lk (mi_ins m212) 83 = some (.getfield 160, 3, []) := by decide +kernel
theorem i212_86 : lk (mi_ins m212) 86 = some (.getfield 291, 3, []) := by decide +kernel
theorem i212_89 : lk (mi_ins m212) 89 = some (.iconst 5, 1, []) := by decide +kernel
theorem i212_90 : lk (mi_ins m212) 90 = some (.iload_n 1, 1, []) := by decide +kernel
theorem i212_91 : lk (mi_ins m212) 91 = some (.imul, 1, []) := by decide +kernel
theorem i212_92 : lk (mi_ins m212) 92 = some (.iload_n 2, 1, []) := by decide +kernel
theorem i212_93 : lk (mi_ins m212) 93 = some (.iadd, 1, []) := by decide +kernel
theorem i212_94 : lk (mi_ins m212) 94 = some (.iload_n 3, 1, []) := by decide +kernel
theorem i212_95 : lk (mi_ins m212) 95 = some (.iastore, 1, []) := by decide +kernel
theorem i212_96 : lk (mi_ins m212) 96 = some (.return_, 1, []) := by decide +kernel
theorem i213_0 : lk (mi_ins m213) 0 = some (.aload_n 0, 1, []) := by decide +kernel
theorem i213_1 : lk (mi_ins m213) 1 = some (.ldc 193, 2, []) := by decide +kernel
theorem i213_3 : lk (mi_ins m213) 3 = some (.invokevirtual 122, 3, []) := by decide +kernel
theorem i213_6 : lk (mi_ins m213) 6 = some (.ifCond .eq 7, 3, []) := by decide +kernel
theorem i213_9 : lk (mi_ins m213) 9 = some (.iconst 0, 1, []) := by decide +kernel
theorem i213_10 : lk (mi_ins m213) 10 = some (.goto 56, 3, []) := by decide +kernel
theorem i213_13 : lk (mi_ins m213) 13 = some (.aload_n 0, 1, []) := by decide +kernel
theorem i213_14 : lk (mi_ins m213) 14 = some (.ldc 195, 2, []) := by decide +kernel
theorem i213_16 : lk (mi_ins m213) 16 = some (.invokevirtual 122, 3, []) := by decide +kernel
theorem i213_19 : lk (mi_ins m213) 19 = some (.ifCond .eq 7, 3, []) := by decide +kernel
theorem i213_22 : lk (mi_ins m213) 22 = some (.iconst 1, 1, []) := by decide +kernel
theorem i213_23 : lk (mi_ins m213) 23 = some (.goto 43, 3, []) := by decide +kernel
theorem i213_26 : lk (mi_ins m213) 26 = some (.aload_n 0, 1, []) := by decide +kernel
theorem i213_27 : lk (mi_ins m213) 27 = some (.ldc 197, 2, []) := by decide +kernel
theorem i213_29 : lk (mi_ins m213) 29 = some (.invokevirtual 122, 3, []) := by decide +kernel
theorem i213_32 : lk (mi_ins m213) 32 = some (.ifCond .eq 7, 3, []) := by decide +kernel
theorem i213_35 : lk (mi_ins m213) 35 = some (.iconst 2, 1, []) := by decide +kernel
theorem i213_36 : lk (mi_ins m213) 36 = some (.goto 30, 3, []) := by decide +kernel
theorem i213_39 : lk (mi_ins m213) 39 = some (.aload_n 0, 1, []) := by decide +kernel
theorem i213_40 : lk (mi_ins m213) 40 = some (.ldc 199, 2, []) := by decide +kernel
theorem i213_42 : lk (mi_ins m213) 42 = some (.invokevirtual 122, 3, []) := by decide +kernel
theorem i213_45 : lk (mi_ins m213) 45 = some (.ifCond .eq 7, 3, []) := by decide +kernel
theorem i213_48 : lk (mi_ins m213) 48 = some (.iconst 3, 1, []) := by decide +kernel
theorem i213_49 : lk (mi_ins m213) 49 = some (.goto 17, 3, []) := by decide +kernel
theorem i213_52 : lk (mi_ins m213) 52 = some (.aload_n 0, 1, []) := by decide +kernel
theorem i213_53 : lk (mi_ins m213) 53 = some (.ldc 201, 2, []) := by decide +kernel
theorem i213_55 : lk (mi_ins m213) 55 = some (.invokevirtual 122, 3, []) := by decide +kernel
theorem i213_58 : lk (mi_ins m213) 58 = some (.ifCond .eq 7, 3, []) := by decide +kernel
theorem i213_61 : lk (mi_ins m213) 61 = some (.iconst 4, 1, []) := by decide +kernel
theorem i213_62 : lk (mi_ins m213) 62 = some (.goto 4, 3, []) := by decide +kernel
theorem i213_65 : lk (mi_ins m213) 65 = some (.iconst (-1), 1, []) := by decide +kernel
theorem i213_66 : lk (mi_ins m213) 66 = some (.istore_n 1, 1, [1]) := by decide +kernel
theorem i213_67 : lk (mi_ins m213) 67 = some (.iload_n 1, 1, []) := by decide +kernel
theorem i213_68 : lk (mi_ins m213) 68 = some (.iconst (-1), 1, []) := by decide +kernel
theorem i213_69 : lk (mi_ins m213) 69 = some (.if_icmp .ne 8, 3, []) := by decide +kernel
theorem i213_72 : lk (mi_ins m213) 72 = some (.aload_n 0, 1, []) := by decide +kernel
theorem i213_73 : lk (mi_ins m213) 73 = some (.iconst 1, 1, []) := by decide +kernel
theorem i213_74 : lk (mi_ins m213) 74 = some (.invokevirtual 126, 3, []) := by decide +kernel
theorem i213_77 : lk (mi_ins m213) 77 = some (.iload_n 1, 1, [0]) := by decide +kernel
theorem i213_78 : lk (mi_ins m213) 78 = some (.iconst (-1), 1, []) := by decide +kernel
theorem i213_79 : lk (mi_ins m213) 79 = some (.if_icmp .ne 7, 3, []) := by decide +kernel
theorem i213_82 : lk (mi_ins m213) 82 = some (.iconst 0, 1, []) := by decide +kernel
theorem i213_83 : lk (mi_ins m213) 83 = some (.goto 4, 3, []) := by decide +kernel
theorem i213_86 : lk (mi_ins m213) 86 = some (.iload_n 1, 1, []) := by decide +kernel
theorem i213_87 : lk (mi_ins m213) 87 = some (.ireturn, 1, [0, 1]) := by decide +kernel
theorem i214_0 : lk (mi_ins m214) 0 = some (.iload_n 0, 1, []) := by decide +kernel
theorem i214_1 : lk (mi_ins m214) 1 = some (.iload_n 1, 1, []) := by decide +kernel
theorem i214_2 : lk (mi_ins m214) 2 = some (.ishr, 1, []) := by decide +kernel
theorem i214_3 : lk (mi_ins m214) 3 = some (.iconst 1, 1, []) := by decide +kernel
theorem i214_4 : lk (mi_ins m214) 4 = some (.iand, 1, []) := by decide +kernel
theorem i214_5 : lk (mi_ins m214) 5 = some (.iconst 1, 1, []) := by decide +kernel
theorem i214_6 : lk (mi_ins m214) 6 = some (.if_icmp .ne 7, 3, []) := by decide +kernel
theorem i214_9 : lk (mi_ins m214) 9 = some (.iconst 1, 1, []) := by decide +kernel
theorem i214_10 : lk (mi_ins m214) 10 = some (.goto 4, 3, []) := by decide +kernel
theorem i214_13 : lk (mi_ins m214) 13 = some (.iconst 0, 1, []) := by decide +kernel
theorem i214_14 : lk (mi_ins m214) 14 = some (.ireturn, 1, [0, 1]) := by decide +kernel
theorem i215_0 : lk (mi_ins m215) 0 = some (.aload_n 0, 1, []) := by decide +kernel
theorem i215_1 : lk (mi_ins m215) 1 = some (.aload_n 0, 1, []) := by decide +kernel
theorem i215_2 : lk (mi_ins m215) 2 = some (.getfield 160, 3, []) := by decide +kernel
theorem i215_5 : lk (mi_ins m215) 5 = some (.getfield 293, 3, []) := by decide +kernel
theorem i215_8 : lk (mi_ins m215) 8 = some (.iconst 3, 1, []) := by decide +kernel
theorem i215_9 : lk (mi_ins m215) 9 = some (.invokevirtual 244, 3, []) := by decide +kernel
theorem i215_12 : lk (mi_ins m215) 12 = some (.aload_n 0, 1, []) := by decide +kernel
theorem i215_13 : lk (mi_ins m215) 13 = some (.invokevirtual 248, 3, []) := by decide +kernel
theorem i215_16 : lk (mi_ins m215) 16 = some (.lstore_n 1, 1, []) := by decide +kernel
theorem i215_17 : lk (mi_ins m215) 17 = some (.aload_n 0, 1, []) := by decide +kernel
theorem i215_18 : lk (mi_ins m215) 18 = some (.ldc_w 256, 3, []) := by decide +kernel
theorem i215_21 : lk (mi_ins m215) 21 = some (.iconst 1, 1, []) := by decide +kernel
theorem i215_22 : lk (mi_ins m215) 22 = some (.bipush 50, 2, []) := by decide +kernel
theorem i215_24 : lk (mi_ins m215) 24 = some (.invokevirtual 240, 3, []) := by decide +kernel
theorem i215_27 : lk (mi_ins m215) 27 = some (.istore_n 3, 1, []) := by decide +kernel
theorem i215_28 : lk (mi_ins m215) 28 = some (.aload_n 0, 1, []) := by decide +kernel
theorem i215_29 : lk (mi_ins m215) 29 = some (.ldc_w 296, 3, []) := by decide +kernel
theorem i215_32 : lk (mi_ins m215) 32 = some (.invokevirtual 134, 3, []) := by decide +kernel
theorem i215_35 : lk (mi_ins m215) 35 = some (.aload_n 0, 1, []) := by decide +kernel
theorem i215_36 : lk (mi_ins m215) 36 = some (.iconst 0, 1, []) := by decide +kernel
theorem i215_37 : lk (mi_ins m215) 37 = some (.invokevirtual 269, 3, []) := by decide +kernel
theorem i215_40 : lk (mi_ins m215) 40 = some (.istore 4, 2, []) := by decide +kernel
theorem i215_42 : lk (mi_ins m215) 42 = some (.aload_n 0, 1, []) := by decide +kernel
theorem i215_43 : lk (mi_ins m215) 43 = some (.getfield 83, 3, []) := by decide +kernel
theorem i215_46 : lk (mi_ins m215) 46 = some (.iconst 5, 1, []) := by decide +kernel
theorem i215_47 : lk (mi_ins m215) 47 = some (.if_icmp .ne 4, 3, []) := by decide +kernel
theorem i215_50 : lk (mi_ins m215) 50 = some (.return_, 1, []) := by decide +kernel
theorem i215_51 : lk (mi_ins m215) 51 = some (.aload_n 0, 1, []) := by decide +kernel
theorem i215_52 : lk (mi_ins m215) 52 = some (.lload_n 1, 1, []) := by decide +kernel
theorem i215_53 : lk (mi_ins m215) 53 = some (.iconst 1, 1, []) := by decide +kernel
theorem i215_54 : lk (mi_ins m215) 54 = some (.aload_n 0, 1, []) := by decide +kernel
theorem i215_55 : lk (mi_ins m215) 55 = some (.getfield 160, 3, []) := by decide +kernel
theorem i215_58 : lk (mi_ins m215) 58 = some (.getfield 293, 3, []) := by decide +kernel
theorem i215_61 : lk (mi_ins m215) 61 = some (.invokevirtual 258, 3, []) := by decide +kernel
theorem i215_64 : lk (mi_ins m215) 64 = some (.aload_n 0, 1, []) := by decide +kernel
theorem i215_65 : lk (mi_ins m215) 65 = some (.getfield 160, 3, []) := by decide +kernel
theorem i215_68 : lk (mi_ins m215) 68 = some (.getfield 298, 3, []) := by decide +kernel
theorem i215_71 : lk (mi_ins m215) 71 = some (.aload_n 0, 1, []) := by decide +kernel
theorem i215_72 : lk (mi_ins m215) 72 = some (.getfield 160, 3, []) := by decide +kernel
theorem i215_75 : lk (mi_ins m215) 75 = some (.getfield 293, 3, []) := by decide +kernel
theorem i215_78 : lk (mi_ins m215) 78 = some (.iload_n 3, 1, []) := by decide +kernel
theorem i215_79 : lk (mi_ins m215) 79 = some (.iastore, 1, []) := by decide +kernel
theorem i215_80 : lk (mi_ins m215) 80 = some (.aload_n 0, 1, []) := by decide +kernel
theorem i215_81 : lk (mi_ins m215) 81 = some (.getfield 160, 3, []) := by decide +kernel
theorem i215_84 : lk (mi_ins m215) 84 = some (.getfield 300, 3, []) := by decide +kernel
theorem i215_87 : lk (mi_ins m215) 87 = some (.aload_n 0, 1, []) := by decide +kernel
theorem i215_88 : lk (mi_ins m215) 88 = some (.getfield 160, 3, []) := by decide +kernel
theorem i215_91 : lk (mi_ins m215) 91 = some (.getfield 293, 3, []) := by decide +kernel
theorem i215_94 : lk (mi_ins m215) 94 = some (.iload 4, 2, []) := by decide +kernel
theorem i215_96 : lk (mi_ins m215) 96 = some (.iastore, 1, []) := by decide +kernel
theorem i215_97 : lk (mi_ins m215) 97 = some (.aload_n 0, 1, []) := by decide +kernel
theorem i215_98 : lk (mi_ins m215) 98 = some (.getfield 160, 3, []) := by decide +kernel
theorem i215_101 : lk (mi_ins m215) 101 = some (.dup, 1, []) := by decide +kernel
theorem i215_102 : lk (mi_ins m215) 102 = some (.getfield 293, 3, []) := by decide +kernel
theorem i215_105 : lk (mi_ins m215) 105 = some (.iconst 1, 1, []) := by decide +kernel
theorem i215_106 : lk (mi_ins m215) 106 = some (.iadd, 1, []) := by decide +kernel
theorem i215_107 : lk (mi_ins m215) 107 = some (.putfield 293, 3, []) := by decide +kernel
theorem i215_110 : lk (mi_ins m215) 110 = some (.return_, 1, []) := by decide +kernel
theorem i216_0 : lk (mi_ins m216) 0 = some (.aload_n 0, 1, []) := by decide +kernel
theorem i216_1 : lk (mi_ins m216) 1 = some (.aload_n 0, 1, []) := by decide +kernel
theorem i216_2 : lk (mi_ins m216) 2 = some (.getfield 160, 3, []) := by decide +kernel
theorem i216_5 : lk (mi_ins m216) 5 = some (.getfield 302, 3, []) := by decide +kernel
theorem i216_8 : lk (mi_ins m216) 8 = some (.iconst 3, 1, []) := by decide +kernel
theorem i216_9 : lk (mi_ins m216) 9 = some (.invokevirtual 244, 3, []) := by decide +kernel
theorem i216_12 : lk (mi_ins m216) 12 = some (.aload_n 0, 1, []) := by decide +kernel
theorem i216_13 : lk (mi_ins m216) 13 = some (.invokevirtual 248, 3, []) := by decide +kernel
theorem i216_16 : lk (mi_ins m216) 16 = some (.lstore_n 1, 1, []) := by decide +kernel
theorem i216_17 : lk (mi_ins m216) 17 = some (.aload_n 0, 1, []) := by decide +kernel
theorem i216_18 : lk (mi_ins m216) 18 = some (.invokevirtual 282, 3, []) := by decide +kernel
theorem i216_21 : lk (mi_ins m216) 21 = some (.istore_n 3, 1, []) := by decide +kernel
theorem i216_22 : lk (mi_ins m216) 22 = some (.aload_n 0, 1, []) := by decide +kernel
theorem i216_23 : lk (mi_ins m216) 23 = some (.getfield 83, 3, []) := by decide +kernel
theorem i216_26 : lk (mi_ins m216) 26 = some (.iconst 5, 1, []) := by decide +kernel
theorem i216_27 : lk (mi_ins m216) 27 = some (.if_icmp .eq 18, 3, []) := by decide +kernel
theorem i216_30 : lk (mi_ins m216) 30 = some (.iload_n 3, 1, []) := by decide +kernel
theorem i216_31 : lk (mi_ins m216) 31 = some (.iconst 1, 1, []) := by decide +kernel
theorem i216_32 : lk (mi_ins m216) 32 = some (.if_icmp .eq 8, 3, []) := by decide +kernel
theorem i216_35 : lk (mi_ins m216) 35 = some (.iload_n 3, 1, []) := by decide +kernel
theorem i216_36 : lk (mi_ins m216) 36 = some (.iconst 2, 1, []) := by decide +kernel
theorem i216_37 : lk (mi_ins m216) 37 = some (.if_icmp .ne 8, 3, []) := by decide +kernel
theorem i216_40 : lk (mi_ins m216) 40 = some (.aload_n 0, 1, [2, 4]) := by decide +kernel
theorem i216_41 : lk (mi_ins m216) 41 = some (.iconst 1, 1, []) := by decide +kernel
theorem i216_42 : lk (mi_ins m216) 42 = some (.invokevirtual 126, 3, []) := by decide +kernel
theorem i216_45 : lk (mi_ins m216) 45 = some (.aload_n 0, 1, [2, 4]) := by decide +kernel
theorem i216_46 : lk (mi_ins m216) 46 = some (.invokevirtual 119, 3, []) := by decide +kernel
theorem i216_49 : lk (mi_ins m216) 49 = some (.aload_n 0, 1, []) := by decide +kernel
theorem i216_50 : lk (mi_ins m216) 50 = some (.ldc_w 305, 3, []) := by decide +kernel
theorem i216_53 : lk (mi_ins m216) 53 = some (.iconst 1, 1, []) := by decide +kernel
theorem i216_54 : lk (mi_ins m216) 54 = some (.bipush 9, 2, []) := by decide +kernel
theorem i216_56 : lk (mi_ins m216) 56 = some (.invokevirtual 240, 3, []) := by decide +kernel
theorem i216_59 : lk (mi_ins m216) 59 = some (.istore 4, 2, []) := by decide +kernel
theorem i216_61 : lk (mi_ins m216) 61 = some (.aload_n 0, 1, []) := by decide +kernel
theorem i216_62 : lk (mi_ins m216) 62 = some (.getfield 83, 3, []) := by decide +kernel
theorem i216_65 : lk (mi_ins m216) 65 = some (.iconst 5, 1, []) := by decide +kernel
theorem i216_66 : lk (mi_ins m216) 66 = some (.if_icmp .ne 4, 3, []) := by decide +kernel
theorem i216_69 : lk (mi_ins m216) 69 = some (.return_, 1, []) := by decide +kernel
theorem i216_70 : lk (mi_ins m216) 70 = some (.aload_n 0, 1, []) := by decide +kernel
theorem i216_71 : lk (mi_ins m216) 71 = some (.lload_n 1, 1, []) := by decide +kernel
theorem i216_72 : lk (mi_ins m216) 72 = some (.iconst 2, 1, []) := by decide +kernel
theorem i216_73 : lk (mi_ins m216) 73 = some (.aload_n 0, 1, []) := by decide +kernel
theorem i216_74 : lk (mi_ins m216) 74 = some (.getfield 160, 3, []) := by decide +kernel
theorem i216_77 : lk (mi_ins m216) 77 = some (.getfield 302, 3, []) := by decide +kernel
theorem i216_80 : lk (mi_ins m216) 80 = some (.invokevirtual 258, 3, []) := by decide +kernel
theorem i216_83 : lk (mi_ins m216) 83 = some (.aload_n 0, 1, []) := by decide +kernel
theorem i216_84 : lk (mi_ins m216) 84 = some (.getfield 160, 3, []) := by decide +kernel
theorem i216_87 : lk (mi_ins m216) 87 = some (.getfield 307, 3, []) := by decide +kernel
theorem i216_90 : lk (mi_ins m216) 90 = some (.aload_n 0, 1, []) := by decide +kernel
theorem i216_91 : lk (mi_ins m216) 91 = some (.getfield 160, 3, []) := by decide +kernel
theorem i216_94 : lk (mi_ins m216) 94 = some (.getfield 302, 3, []) := by decide +kernel
theorem i216_97 : lk (mi_ins m216) 97 = some (.iload_n 3, 1, []) := by decide +kernel
theorem i216_98 : lk (mi_ins m216) 98 = some (.iastore, 1, []) := by decide +kernel
theorem i216_99 : lk (mi_ins m216) 99 = some (.aload_n 0, 1, []) := by decide +kernel
theorem i216_100 : lk (mi_ins m216) 100 = some (.getfield 160, 3, []) := by decide +kernel
theorem i216_103 : lk (mi_ins m216) 103 = some (.getfield 310, 3, []) := by decide +kernel
theorem i216_106 : lk (mi_ins m216) 106 = some (.aload_n 0, 1, []) := by decide +kernel
theorem i216_107 : lk (mi_ins m216) 107 = some (.getfield 160, 3, []) := by decide +kernel
theorem i216_110 : lk (mi_ins m216) 110 = some (.getfield 302, 3, []) := by decide +kernel
theorem i216_113 : lk (mi_ins m216) 113 = some (.iload 4, 2, []) := by decide +kernel
theorem i216_115 : lk (mi_ins m216) 115 = some (.iastore, 1, []) := by decide +kernel
theorem i216_116 : lk (mi_ins m216) 116 = some (.aload_n 0, 1, []) := by decide +kernel
theorem i216_117 : lk (mi_ins m216) 117 = some (.getfield 160, 3, []) := by decide +kernel
theorem i216_120 : lk (mi_ins m216) 120 = some (.dup, 1, []) := by decide +kernel
theorem i216_121 : lk (mi_ins m216) 121 = some (.getfield 302, 3, []) := by decide +kernel
theorem i216_124 : lk (mi_ins m216) 124 = some (.iconst 1, 1, []) := by decide +kernel
theorem i216_125 : lk (mi_ins m216) 125 = some (.iadd, 1, []) := by decide +kernel
theorem i216_126 : lk (mi_ins m216) 126 = some (.putfield 302, 3, []) := by decide +kernel
theorem i216_129 : lk (mi_ins m216) 129 = some (.return_, 1, []) := by decide +kernel
theorem i217_0 : lk (mi_ins m217) 0 = some (.aload_n 0, 1, []) := by decide +kernel
theorem i217_1 : lk (mi_ins m217) 1 = some (.aload_n 0, 1, []) := by decide +kernel
theorem i217_2 : lk (mi_ins m217) 2 = some (.getfield 160, 3, []) := by decide +kernel
theorem i217_5 : lk (mi_ins m217) 5 = some (.getfield 312, 3, []) := by decide +kernel
theorem i217_8 : lk (mi_ins m217) 8 = some (.iconst 4, 1, []) := by decide +kernel
theorem i217_9 : lk (mi_ins m217) 9 = some (.invokevirtual 244, 3, []) := by decide +kernel
theorem i217_12 : lk (mi_ins m217) 12 = some (.aload_n 0, 1, []) := by decide +kernel
theorem i217_13 : lk (mi_ins m217) 13 = some (.iconst 0, 1, []) := by decide +kernel
theorem i217_14 : lk (mi_ins m217) 14 = some (.invokevirtual 269, 3, []) := by decide +kernel
theorem i217_17 : lk (mi_ins m217) 17 = some (.istore_n 1, 1, []) := by decide +kernel
theorem i217_18 : lk (mi_ins m217) 18 = some (.aload_n 0, 1, []) := by decide +kernel
theorem i217_19 : lk (mi_ins m217) 19 = some (.ldc_w 315, 3, []) := by decide +kernel
theorem i217_22 : lk (mi_ins m217) 22 = some (.iconst 0, 1, []) := by decide +kernel
theorem i217_23 : lk (mi_ins m217) 23 = some (.bipush 9, 2, []) := by decide +kernel
theorem i217_25 : lk (mi_ins m217) 25 = some (.invokevirtual 240, 3, []) := by decide +kernel
theorem i217_28 : lk (mi_ins m217) 28 = some (.istore_n 2, 1, []) := by decide +kernel
theorem i217_29 : lk (mi_ins m217) 29 = some (.aload_n 0, 1, []) := by decide +kernel
theorem i217_30 : lk (mi_ins m217) 30 = some (.ldc_w 317, 3, []) := by decide +kernel
theorem i217_33 : lk (mi_ins m217) 33 = some (.iconst 0, 1, []) := by decide +kernel
theorem i217_34 : lk (mi_ins m217) 34 = some (.bipush 50, 2, []) := by decide +kernel
theorem i217_36 : lk (mi_ins m217) 36 = some (.invokevirtual 240, 3, []) := by decide +kernel
theorem i217_39 : lk (mi_ins m217) 39 = some (.istore_n 3, 1, []) := by decide +kernel
theorem i217_40 : lk (mi_ins m217) 40 = some (.aload_n 0, 1, []) := by decide +kernel
theorem i217_41 : lk (mi_ins m217) 41 = some (.getfield 83, 3, []) := by decide +kernel
theorem i217_44 : lk (mi_ins m217) 44 = some (.iconst 5, 1, []) := by decide +kernel
theorem i217_45 : lk (mi_ins m217) 45 = some (.if_icmp .ne 4, 3, []) := by decide +kernel
theorem i217_48 : lk (mi_ins m217) 48 = some (.return_, 1, []) := by decide +kernel
theorem i217_49 : lk (mi_ins m217) 49 = some (.aload_n 0, 1, []) := by decide +kernel
theorem i217_50 : lk (mi_ins m217) 50 = some (.getfield 160, 3, []) := by decide +kernel
theorem i217_53 : lk (mi_ins m217) 53 = some (.getfield 319, 3, []) := by decide +kernel
theorem i217_56 : lk (mi_ins m217) 56 = some (.aload_n 0, 1, []) := by decide +kernel
theorem i217_57 : lk (mi_ins m217) 57 = some (.getfield 160, 3, []) := by decide +kernel
theorem i217_60 : lk (mi_ins m217) 60 = some (.getfield 312, 3, []) := by decide +kernel
theorem i217_63 : lk (mi_ins m217) 63 = some (.iload_n 1, 1, []) := by decide +kernel
theorem i217_64 : lk (mi_ins m217) 64 = some (.iastore, 1, []) := by decide +kernel
theorem i217_65 : lk (mi_ins m217) 65 = some (.aload_n 0, 1, []) := by decide +kernel
theorem i217_66 : lk (mi_ins m217) 66 = some (.getfield 160, 3, []) := by decide +kernel
theorem i217_69 : lk (mi_ins m217) 69 = some (.getfield 322, 3, []) := by decide +kernel
theorem i217_72 : lk (mi_ins m217) 72 = some (.aload_n 0, 1, []) := by decide +kernel
theorem i217_73 : lk (mi_ins m217) 73 = some (.getfield 160, 3, []) := by decide +kernel
theorem i217_76 : lk (mi_ins m217) 76 = some (.getfield 312, 3, []) := by decide +kernel
theorem i217_79 : lk (mi_ins m217) 79 = some (.iload_n 2, 1, []) := by decide +kernel
