theorem i217_80 : lk (mi_ins m217) 80 = some (.iastore, 1, []) := by decide +kernel
theorem i217_81 : lk (mi_ins m217) 81 = some (.aload_n 0, 1, []) := by decide +kernel
theorem i217_82 : lk (mi_ins m217) 82 = some (.getfield 160, 3, []) := by decide +kernel
theorem i217_85 : lk (mi_ins m217) 85 = some (.getfield 325, 3, []) := by decide +kernel
theorem i217_88 : lk (mi_ins m217) 88 = some (.aload_n 0, 1, []) := by decide +kernel
theorem i217_89 : lk (mi_ins m217) 89 = some (.getfield 160, 3, []) := by decide +kernel
theorem i217_92 : lk (mi_ins m217) 92 = some (.getfield 312, 3, []) := by decide +kernel
theorem i217_95 : lk (mi_ins m217) 95 = some (.iload_n 3, 1, []) := by decide +kernel
theorem i217_96 : lk (mi_ins m217) 96 = some (.iastore, 1, []) := by decide +kernel
theorem i217_97 : lk (mi_ins m217) 97 = some (.aload_n 0, 1, []) := by decide +kernel
theorem i217_98 : lk (mi_ins m217) 98 = some (.getfield 160, 3, []) := by decide +kernel
theorem i217_101 : lk (mi_ins m217) 101 = some (.dup, 1, []) := by decide +kernel
theorem i217_102 : lk (mi_ins m217) 102 = some (.getfield 312, 3, []) := by decide +kernel
theorem i217_105 : lk (mi_ins m217) 105 = some (.iconst 1, 1, []) := by decide +kernel
theorem i217_106 : lk (mi_ins m217) 106 = some (.iadd, 1, []) := by decide +kernel
theorem i217_107 : lk (mi_ins m217) 107 = some (.putfield 312, 3, []) := by decide +kernel
theorem i217_110 : lk (mi_ins m217) 110 = some (.return_, 1, []) := by decide +kernel
theorem i218_0 : lk (mi_ins m218) 0 = some (.aload_n 0, 1, []) := by decide +kernel
theorem i218_1 : lk (mi_ins m218) 1 = some (.aload_n 0, 1, []) := by decide +kernel
theorem i218_2 : lk (mi_ins m218) 2 = some (.getfield 160, 3, []) := by decide +kernel
theorem i218_5 : lk (mi_ins m218) 5 = some (.getfield 327, 3, []) := by decide +kernel
theorem i218_8 : lk (mi_ins m218) 8 = some (.iconst 4, 1, []) := by decide +kernel
theorem i218_9 : lk (mi_ins m218) 9 = some (.invokevirtual 244, 3, []) := by decide +kernel
theorem i218_12 : lk (mi_ins m218) 12 = some (.aload_n 0, 1, []) := by decide +kernel
theorem i218_13 : lk (mi_ins m218) 13 = some (.iconst 2, 1, []) := by decide +kernel
theorem i218_14 : lk (mi_ins m218) 14 = some (.invokevirtual 269, 3, []) := by decide +kernel
theorem i218_17 : lk (mi_ins m218) 17 = some (.istore_n 1, 1, []) := by decide +kernel
theorem i218_18 : lk (mi_ins m218) 18 = some (.aload_n 0, 1, []) := by decide +kernel
theorem i218_19 : lk (mi_ins m218) 19 = some (.iconst 0, 1, []) := by decide +kernel
theorem i218_20 : lk (mi_ins m218) 20 = some (.invokevirtual 269, 3, []) := by decide +kernel
theorem i218_23 : lk (mi_ins m218) 23 = some (.istore_n 2, 1, []) := by decide +kernel
theorem i218_24 : lk (mi_ins m218) 24 = some (.aload_n 0, 1, []) := by decide +kernel
theorem i218_25 : lk (mi_ins m218) 25 = some (.iconst 1, 1, []) := by decide +kernel
theorem i218_26 : lk (mi_ins m218) 26 = some (.bipush 20, 2, []) := by decide +kernel
theorem i218_28 : lk (mi_ins m218) 28 = some (.invokevirtual 138, 3, []) := by decide +kernel
theorem i218_31 : lk (mi_ins m218) 31 = some (.istore_n 3, 1, []) := by decide +kernel
theorem i218_32 : lk (mi_ins m218) 32 = some (.aload_n 0, 1, []) := by decide +kernel
theorem i218_33 : lk (mi_ins m218) 33 = some (.getfield 83, 3, []) := by decide +kernel
theorem i218_36 : lk (mi_ins m218) 36 = some (.iconst 5, 1, []) := by decide +kernel
theorem i218_37 : lk (mi_ins m218) 37 = some (.if_icmp .ne 4, 3, []) := by decide +kernel
theorem i218_40 : lk (mi_ins m218) 40 = some (.return_, 1, []) := by decide +kernel
theorem i218_41 : lk (mi_ins m218) 41 = some (.aload_n 0, 1, []) := by decide +kernel
theorem i218_42 : lk (mi_ins m218) 42 = some (.getfield 160, 3, []) := by decide +kernel
theorem i218_45 : lk (mi_ins m218) 45 = some (.getfield 329, 3, []) := by decide +kernel
theorem i218_48 : lk (mi_ins m218) 48 = some (.aload_n 0, 1, []) := by decide +kernel
theorem i218_49 : lk (mi_ins m218) 49 = some (.getfield 160, 3, []) := by decide +kernel
theorem i218_52 : lk (mi_ins m218) 52 = some (.getfield 327, 3, []) := by decide +kernel
theorem i218_55 : lk (mi_ins m218) 55 = some (.iload_n 1, 1, []) := by decide +kernel
theorem i218_56 : lk (mi_ins m218) 56 = some (.iastore, 1, []) := by decide +kernel
theorem i218_57 : lk (mi_ins m218) 57 = some (.aload_n 0, 1, []) := by decide +kernel
theorem i218_58 : lk (mi_ins m218) 58 = some (.getfield 160, 3, []) := by decide +kernel
theorem i218_61 : lk (mi_ins m218) 61 = some (.getfield 332, 3, []) := by decide +kernel
theorem i218_64 : lk (mi_ins m218) 64 = some (.aload_n 0, 1, []) := by decide +kernel
theorem i218_65 : lk (mi_ins m218) 65 = some (.getfield 160, 3, []) := by decide +kernel
theorem i218_68 : lk (mi_ins m218) 68 = some (.getfield 327, 3, []) := by decide +kernel
theorem i218_71 : lk (mi_ins m218) 71 = some (.iload_n 2, 1, []) := by decide +kernel
theorem i218_72 : lk (mi_ins m218) 72 = some (.iastore, 1, []) := by decide +kernel
theorem i218_73 : lk (mi_ins m218) 73 = some (.aload_n 0, 1, []) := by decide +kernel
theorem i218_74 : lk (mi_ins m218) 74 = some (.getfield 160, 3, []) := by decide +kernel
theorem i218_77 : lk (mi_ins m218) 77 = some (.getfield 335, 3, []) := by decide +kernel
theorem i218_80 : lk (mi_ins m218) 80 = some (.aload_n 0, 1, []) := by decide +kernel
theorem i218_81 : lk (mi_ins m218) 81 = some (.getfield 160, 3, []) := by decide +kernel
theorem i218_84 : lk (mi_ins m218) 84 = some (.getfield 327, 3, []) := by decide +kernel
theorem i218_87 : lk (mi_ins m218) 87 = some (.iload_n 3, 1, []) := by decide +kernel
theorem i218_88 : lk (mi_ins m218) 88 = some (.iastore, 1, []) := by decide +kernel
theorem i218_89 : lk (mi_ins m218) 89 = some (.aload_n 0, 1, []) := by decide +kernel
theorem i218_90 : lk (mi_ins m218) 90 = some (.getfield 160, 3, []) := by decide +kernel
theorem i218_93 : lk (mi_ins m218) 93 = some (.dup, 1, []) := by decide +kernel
theorem i218_94 : lk (mi_ins m218) 94 = some (.getfield 327, 3, []) := by decide +kernel
theorem i218_97 : lk (mi_ins m218) 97 = some (.iconst 1, 1, []) := by decide +kernel
theorem i218_98 : lk (mi_ins m218) 98 = some (.iadd, 1, []) := by decide +kernel
theorem i218_99 : lk (mi_ins m218) 99 = some (.putfield 327, 3, []) := by decide +kernel
theorem i218_102 : lk (mi_ins m218) 102 = some (.return_, 1, []) := by decide +kernel
theorem i219_0 : lk (mi_ins m219) 0 = some (.aload_n 0, 1, []) := by decide +kernel
theorem i219_1 : lk (mi_ins m219) 1 = some (.iconst 0, 1, []) := by decide +kernel
theorem i219_2 : lk (mi_ins m219) 2 = some (.iconst 1, 1, []) := by decide +kernel
theorem i219_3 : lk (mi_ins m219) 3 = some (.invokevirtual 244, 3, []) := by decide +kernel
theorem i219_6 : lk (mi_ins m219) 6 = some (.aload_n 0, 1, []) := by decide +kernel
theorem i219_7 : lk (mi_ins m219) 7 = some (.iconst 0, 1, []) := by decide +kernel
theorem i219_8 : lk (mi_ins m219) 8 = some (.invokevirtual 190, 3, []) := by decide +kernel
theorem i219_11 : lk (mi_ins m219) 11 = some (.istore_n 1, 1, []) := by decide +kernel
theorem i219_12 : lk (mi_ins m219) 12 = some (.aload_n 0, 1, []) := by decide +kernel
theorem i219_13 : lk (mi_ins m219) 13 = some (.getfield 83, 3, []) := by decide +kernel
theorem i219_16 : lk (mi_ins m219) 16 = some (.iconst 5, 1, []) := by decide +kernel
theorem i219_17 : lk (mi_ins m219) 17 = some (.if_icmp .eq 19, 3, []) := by decide +kernel
theorem i219_20 : lk (mi_ins m219) 20 = some (.aload_n 0, 1, []) := by decide +kernel
theorem i219_21 : lk (mi_ins m219) 21 = some (.getfield 160, 3, []) := by decide +kernel
theorem i219_24 : lk (mi_ins m219) 24 = some (.iload_n 1, 1, []) := by decide +kernel
theorem i219_25 : lk (mi_ins m219) 25 = some (.invokevirtual 338, 3, []) := by decide +kernel
theorem i219_28 : lk (mi_ins m219) 28 = some (.ifCond .eq 8, 3, []) := by decide +kernel
theorem i219_31 : lk (mi_ins m219) 31 = some (.aload_n 0, 1, []) := by decide +kernel
theorem i219_32 : lk (mi_ins m219) 32 = some (.iconst 3, 1, []) := by decide +kernel
theorem i219_33 : lk (mi_ins m219) 33 = some (.invokevirtual 126, 3, []) := by decide +kernel
theorem i219_36 : lk (mi_ins m219) 36 = some (.aload_n 0, 1, [2, 3]) := by decide +kernel
theorem i219_37 : lk (mi_ins m219) 37 = some (.invokevirtual 119, 3, []) := by decide +kernel
theorem i219_40 : lk (mi_ins m219) 40 = some (.aload_n 0, 1, []) := by decide +kernel
theorem i219_41 : lk (mi_ins m219) 41 = some (.ldc_w 341, 3, []) := by decide +kernel
theorem i219_44 : lk (mi_ins m219) 44 = some (.invokevirtual 122, 3, []) := by decide +kernel
theorem i219_47 : lk (mi_ins m219) 47 = some (.istore_n 2, 1, []) := by decide +kernel
theorem i219_48 : lk (mi_ins m219) 48 = some (.iload_n 2, 1, []) := by decide +kernel
theorem i219_49 : lk (mi_ins m219) 49 = some (.ifCond .ne 18, 3, []) := by decide +kernel
theorem i219_52 : lk (mi_ins m219) 52 = some (.aload_n 0, 1, []) := by decide +kernel
theorem i219_53 : lk (mi_ins m219) 53 = some (.ldc_w 343, 3, []) := by decide +kernel
theorem i219_56 : lk (mi_ins m219) 56 = some (.invokevirtual 122, 3, []) := by decide +kernel
theorem i219_59 : lk (mi_ins m219) 59 = some (.ifCond .ne 8, 3, []) := by decide +kernel
theorem i219_62 : lk (mi_ins m219) 62 = some (.aload_n 0, 1, []) := by decide +kernel
theorem i219_63 : lk (mi_ins m219) 63 = some (.iconst 1, 1, []) := by decide +kernel
theorem i219_64 : lk (mi_ins m219) 64 = some (.invokevirtual 126, 3, []) := by decide +kernel
theorem i219_67 : lk (mi_ins m219) 67 = some (.aload_n 0, 1, [3]) := by decide +kernel
theorem i219_68 : lk (mi_ins m219) 68 = some (.invokevirtual 119, 3, []) := by decide +kernel
theorem i219_71 : lk (mi_ins m219) 71 = some (.aload_n 0, 1, []) := by decide +kernel
theorem i219_72 : lk (mi_ins m219) 72 = some (.iload_n 2, 1, []) := by decide +kernel
theorem i219_73 : lk (mi_ins m219) 73 = some (.ifCond .eq 7, 3, []) := by decide +kernel
theorem i219_76 : lk (mi_ins m219) 76 = some (.iconst 1, 1, []) := by decide +kernel
theorem i219_77 : lk (mi_ins m219) 77 = some (.goto 4, 3, []) := by decide +kernel
theorem i219_80 : lk (mi_ins m219) 80 = some (.iconst 0, 1, []) := by decide +kernel
theorem i219_81 : lk (mi_ins m219) 81 = some (.sipush 200, 3, [3]) := by decide +kernel
theorem i219_84 : lk (mi_ins m219) 84 = some (.invokevirtual 138, 3, []) := by decide +kernel
theorem i219_87 : lk (mi_ins m219) 87 = some (.istore_n 3, 1, []) := by decide +kernel
theorem i219_88 : lk (mi_ins m219) 88 = some (.aload_n 0, 1, []) := by decide +kernel
theorem i219_89 : lk (mi_ins m219) 89 = some (.getfield 83, 3, []) := by decide +kernel
theorem i219_92 : lk (mi_ins m219) 92 = some (.iconst 5, 1, []) := by decide +kernel
theorem i219_93 : lk (mi_ins m219) 93 = some (.if_icmp .ne 4, 3, []) := by decide +kernel
theorem i219_96 : lk (mi_ins m219) 96 = some (.return_, 1, []) := by decide +kernel
theorem i219_97 : lk (mi_ins m219) 97 = some (.aload_n 0, 1, []) := by decide +kernel
theorem i219_98 : lk (mi_ins m219) 98 = some (.getfield 160, 3, []) := by decide +kernel
theorem i219_101 : lk (mi_ins m219) 101 = some (.getfield 345, 3, []) := by decide +kernel
theorem i219_104 : lk (mi_ins m219) 104 = some (.aload_n 0, 1, []) := by decide +kernel
theorem i219_105 : lk (mi_ins m219) 105 = some (.getfield 160, 3, []) := by decide +kernel
theorem i219_108 : lk (mi_ins m219) 108 = some (.getfield 348, 3, []) := by decide +kernel
theorem i219_111 : lk (mi_ins m219) 111 = some (.iload_n 1, 1, []) := by decide +kernel
theorem i219_112 : lk (mi_ins m219) 112 = some (.iastore, 1, []) := by decide +kernel
theorem i219_113 : lk (mi_ins m219) 113 = some (.aload_n 0, 1, []) := by decide +kernel
theorem i219_114 : lk (mi_ins m219) 114 = some (.getfield 160, 3, []) := by decide +kernel
theorem i219_117 : lk (mi_ins m219) 117 = some (.getfield 350, 3, []) := by decide +kernel
theorem i219_120 : lk (mi_ins m219) 120 = some (.aload_n 0, 1, []) := by decide +kernel
theorem i219_121 : lk (mi_ins m219) 121 = some (.getfield 160, 3, []) := by decide +kernel
theorem i219_124 : lk (mi_ins m219) 124 = some (.getfield 348, 3, []) := by decide +kernel
theorem i219_127 : lk (mi_ins m219) 127 = some (.iload_n 2, 1, []) := by decide +kernel
theorem i219_128 : lk (mi_ins m219) 128 = some (.ifCond .eq 8, 3, []) := by decide +kernel
theorem i219_131 : lk (mi_ins m219) 131 = some (.iload_n 3, 1, []) := by decide +kernel
theorem i219_132 : lk (mi_ins m219) 132 = some (.ineg, 1, []) := by decide +kernel
theorem i219_133 : lk (mi_ins m219) 133 = some (.goto 4, 3, []) := by decide +kernel
theorem i219_136 : lk (mi_ins m219) 136 = some (.iload_n 3, 1, []) := by decide +kernel
theorem i219_137 : lk (mi_ins m219) 137 = some (.iastore, 1, [1, 2, 3]) := by decide +kernel
theorem i219_138 : lk (mi_ins m219) 138 = some (.aload_n 0, 1, []) := by decide +kernel
theorem i219_139 : lk (mi_ins m219) 139 = some (.getfield 160, 3, []) := by decide +kernel
theorem i219_142 : lk (mi_ins m219) 142 = some (.dup, 1, []) := by decide +kernel
theorem i219_143 : lk (mi_ins m219) 143 = some (.getfield 348, 3, []) := by decide +kernel
theorem i219_146 : lk (mi_ins m219) 146 = some (.iconst 1, 1, []) := by decide +kernel
theorem i219_147 : lk (mi_ins m219) 147 = some (.iadd, 1, []) := by decide +kernel
theorem i219_148 : lk (mi_ins m219) 148 = some (.putfield 348, 3, []) := by decide +kernel
theorem i219_151 : lk (mi_ins m219) 151 = some (.return_, 1, []) := by decide +kernel
theorem i220_0 : lk (mi_ins m220) 0 = some (.iconst 0, 1, []) := by decide +kernel
theorem i220_1 : lk (mi_ins m220) 1 = some (.istore_n 2, 1, []) := by decide +kernel
theorem i220_2 : lk (mi_ins m220) 2 = some (.iload_n 2, 1, []) := by decide +kernel
theorem i220_3 : lk (mi_ins m220) 3 = some (.aload_n 0, 1, []) := by decide +kernel
theorem i220_4 : lk (mi_ins m220) 4 = some (.getfield 86, 3, []) := by decide +kernel
theorem i220_7 : lk (mi_ins m220) 7 = some (.if_icmp .ge 21, 3, []) := by decide +kernel
theorem i220_10 : lk (mi_ins m220) 10 = some (.aload_n 0, 1, []) := by decide +kernel
theorem i220_11 : lk (mi_ins m220) 11 = some (.getfield 64, 3, []) := by decide +kernel
theorem i220_14 : lk (mi_ins m220) 14 = some (.iload_n 2, 1, []) := by decide +kernel
theorem i220_15 : lk (mi_ins m220) 15 = some (.iaload, 1, []) := by decide +kernel
theorem i220_16 : lk (mi_ins m220) 16 = some (.iload_n 1, 1, []) := by decide +kernel
theorem i220_17 : lk (mi_ins m220) 17 = some (.if_icmp .ne 5, 3, []) := by decide +kernel
theorem i220_20 : lk (mi_ins m220) 20 = some (.iconst 1, 1, []) := by decide +kernel
theorem i220_21 : lk (mi_ins m220) 21 = some (.ireturn, 1, []) := by decide +kernel
theorem i220_22 : lk (mi_ins m220) 22 = some (.iinc 2 1, 3, []) := by decide +kernel
theorem i220_25 : lk (mi_ins m220) 25 = some (.goto (-23), 3, []) := by decide +kernel
theorem i220_28 : lk (mi_ins m220) 28 = some (.iconst 0, 1, [0, 1, 2]) := by decide +kernel
theorem i220_29 : lk (mi_ins m220) 29 = some (.ireturn, 1, []) := by decide +kernel
theorem i221_0 : lk (mi_ins m221) 0 = some (.aload_n 0, 1, []) := by decide +kernel
theorem i221_1 : lk (mi_ins m221) 1 = some (.getfield 83, 3, []) := by decide +kernel
theorem i221_4 : lk (mi_ins m221) 4 = some (.iconst 4, 1, []) := by decide +kernel
theorem i221_5 : lk (mi_ins m221) 5 = some (.if_icmp .ne 7, 3, []) := by decide +kernel
theorem i221_8 : lk (mi_ins m221) 8 = some (.iconst 1, 1, []) := by decide +kernel
theorem i221_9 : lk (mi_ins m221) 9 = some (.goto 4, 3, []) := by decide +kernel
theorem i221_12 : lk (mi_ins m221) 12 = some (.iconst 0, 1, []) := by decide +kernel
theorem i221_13 : lk (mi_ins m221) 13 = some (.istore_n 1, 1, [1]) := by decide +kernel
theorem i221_14 : lk (mi_ins m221) 14 = some (.iload_n 1, 1, []) := by decide +kernel
theorem i221_15 : lk (mi_ins m221) 15 = some (.ifCond .eq 7, 3, []) := by decide +kernel
theorem i221_18 : lk (mi_ins m221) 18 = some (.aload_n 0, 1, []) := by decide +kernel
theorem i221_19 : lk (mi_ins m221) 19 = some (.invokevirtual 119, 3, []) := by decide +kernel
theorem i221_22 : lk (mi_ins m221) 22 = some (.iload_n 1, 1, [0]) := by decide +kernel
theorem i221_23 : lk (mi_ins m221) 23 = some (.ireturn, 1, []) := by decide +kernel
theorem i222_0 : lk (mi_ins m222) 0 = some (.iconst 0, 1, []) := by decide +kernel
theorem i222_1 : lk (mi_ins m222) 1 = some (.istore_n 2, 1, []) := by decide +kernel
theorem i222_2 : lk (mi_ins m222) 2 = some (.iload_n 2, 1, []) := by decide +kernel
theorem i222_3 : lk (mi_ins m222) 3 = some (.bipush 31, 2, []) := by decide +kernel
theorem i222_5 : lk (mi_ins m222) 5 = some (.if_icmp .ge 16, 3, []) := by decide +kernel
theorem i222_8 : lk (mi_ins m222) 8 = some (.aload_n 0, 1, []) := by decide +kernel
theorem i222_9 : lk (mi_ins m222) 9 = some (.getfield 21, 3, []) := by decide +kernel
theorem i222_12 : lk (mi_ins m222) 12 = some (.iload_n 2, 1, []) := by decide +kernel
theorem i222_13 : lk (mi_ins m222) 13 = some (.iconst 0, 1, []) := by decide +kernel
theorem i222_14 : lk (mi_ins m222) 14 = some (.iastore, 1, []) := by decide +kernel
theorem i222_15 : lk (mi_ins m222) 15 = some (.iinc 2 1, 3, []) := by decide +kernel
theorem i222_18 : lk (mi_ins m222) 18 = some (.goto (-16), 3, []) := by decide +kernel
theorem i222_21 : lk (mi_ins m222) 21 = some (.iconst 0, 1, [2]) := by decide +kernel
theorem i222_22 : lk (mi_ins m222) 22 = some (.istore_n 2, 1, []) := by decide +kernel
theorem i222_23 : lk (mi_ins m222) 23 = some (.iload_n 2, 1, []) := by decide +kernel
theorem i222_24 : lk (mi_ins m222) 24 = some (.bipush 25, 2, []) := by decide +kernel
theorem i222_26 : lk (mi_ins m222) 26 = some (.if_icmp .ge 26, 3, []) := by decide +kernel
theorem i222_29 : lk (mi_ins m222) 29 = some (.aload_n 0, 1, []) := by decide +kernel
theorem i222_30 : lk (mi_ins m222) 30 = some (.getfield 21, 3, []) := by decide +kernel
theorem i222_33 : lk (mi_ins m222) 33 = some (.iconst 0, 1, []) := by decide +kernel
theorem i222_34 : lk (mi_ins m222) 34 = some (.iload_n 2, 1, []) := by decide +kernel
theorem i222_35 : lk (mi_ins m222) 35 = some (.iadd, 1, []) := by decide +kernel
theorem i222_36 : lk (mi_ins m222) 36 = some (.aload_n 0, 1, []) := by decide +kernel
theorem i222_37 : lk (mi_ins m222) 37 = some (.getfield 360, 3, []) := by decide +kernel
theorem i222_40 : lk (mi_ins m222) 40 = some (.getfield 291, 3, []) := by decide +kernel
theorem i222_43 : lk (mi_ins m222) 43 = some (.iload_n 2, 1, []) := by decide +kernel
theorem i222_44 : lk (mi_ins m222) 44 = some (.iaload, 1, []) := by decide +kernel
theorem i222_45 : lk (mi_ins m222) 45 = some (.iastore, 1, []) := by decide +kernel
theorem i222_46 : lk (mi_ins m222) 46 = some (.iinc 2 1, 3, []) := by decide +kernel
theorem i222_49 : lk (mi_ins m222) 49 = some (.goto (-26), 3, []) := by decide +kernel
theorem i222_52 : lk (mi_ins m222) 52 = some (.iconst 0, 1, [2]) := by decide +kernel
theorem i222_53 : lk (mi_ins m222) 53 = some (.istore_n 2, 1, []) := by decide +kernel
theorem i222_54 : lk (mi_ins m222) 54 = some (.iload_n 2, 1, []) := by decide +kernel
theorem i222_55 : lk (mi_ins m222) 55 = some (.aload_n 0, 1, []) := by decide +kernel
theorem i222_56 : lk (mi_ins m222) 56 = some (.getfield 360, 3, []) := by decide +kernel
theorem i222_59 : lk (mi_ins m222) 59 = some (.getfield 327, 3, []) := by decide +kernel
theorem i222_62 : lk (mi_ins m222) 62 = some (.if_icmp .ge 71, 3, []) := by decide +kernel
theorem i222_65 : lk (mi_ins m222) 65 = some (.iload_n 1, 1, []) := by decide +kernel
theorem i222_66 : lk (mi_ins m222) 66 = some (.aload_n 0, 1, []) := by decide +kernel
theorem i222_67 : lk (mi_ins m222) 67 = some (.getfield 360, 3, []) := by decide +kernel
theorem i222_70 : lk (mi_ins m222) 70 = some (.getfield 329, 3, []) := by decide +kernel
theorem i222_73 : lk (mi_ins m222) 73 = some (.iload_n 2, 1, []) := by decide +kernel
theorem i222_74 : lk (mi_ins m222) 74 = some (.iaload, 1, []) := by decide +kernel
theorem i222_75 : lk (mi_ins m222) 75 = some (.invokestatic 288, 3, []) := by decide +kernel
theorem i222_78 : lk (mi_ins m222) 78 = some (.ifCond .ne 49, 3, []) := by decide +kernel
theorem i222_81 : lk (mi_ins m222) 81 = some (.aload_n 0, 1, []) := by decide +kernel
theorem i222_82 : lk (mi_ins m222) 82 = some (.getfield 21, 3, []) := by decide +kernel
theorem i222_85 : lk (mi_ins m222) 85 = some (.aload_n 0, 1, []) := by decide +kernel
theorem i222_86 : lk (mi_ins m222) 86 = some (.getfield 360, 3, []) := by decide +kernel
theorem i222_89 : lk (mi_ins m222) 89 = some (.getfield 332, 3, []) := by decide +kernel
theorem i222_92 : lk (mi_ins m222) 92 = some (.iload_n 2, 1, []) := by decide +kernel
theorem i222_93 : lk (mi_ins m222) 93 = some (.iaload, 1, []) := by decide +kernel
theorem i222_94 : lk (mi_ins m222) 94 = some (.aload_n 0, 1, []) := by decide +kernel
theorem i222_95 : lk (mi_ins m222) 95 = some (.getfield 360, 3, []) := by decide +kernel
theorem i222_98 : lk (mi_ins m222) 98 = some (.getfield 307, 3, []) := by decide +kernel
theorem i222_101 : lk (mi_ins m222) 101 = some (.aload_n 0, 1, []) := by decide +kernel
theorem i222_102 : lk (mi_ins m222) 102 = some (.getfield 360, 3, []) := by decide +kernel
theorem i222_105 : lk (mi_ins m222) 105 = some (.getfield 329, 3, []) := by decide +kernel
theorem i222_108 : lk (mi_ins m222) 108 = some (.iload_n 2, 1, []) := by decide +kernel
theorem i222_109 : lk (mi_ins m222) 109 = some (.iaload, 1, []) := by decide +kernel
theorem i222_110 : lk (mi_ins m222) 110 = some (.iaload, 1, []) := by decide +kernel
theorem i222_111 : lk (mi_ins m222) 111 = some (.invokestatic 371, 3, []) := by decide +kernel
theorem i222_114 : lk (mi_ins m222) 114 = some (.dup2, 1, []) := by decide +kernel
theorem i222_115 : lk (mi_ins m222) 115 = some (.iaload, 1, []) := by decide +kernel
theorem i222_116 : lk (mi_ins m222) 116 = some (.aload_n 0, 1, []) := by decide +kernel
theorem i222_117 : lk (mi_ins m222) 117 = some (.getfield 360, 3, []) := by decide +kernel
theorem i222_120 : lk (mi_ins m222) 120 = some (.getfield 335, 3, []) := by decide +kernel
theorem i222_123 : lk (mi_ins m222) 123 = some (.iload_n 2, 1, []) := by decide +kernel
theorem i222_124 : lk (mi_ins m222) 124 = some (.iaload, 1, []) := by decide +kernel
theorem i222_125 : lk (mi_ins m222) 125 = some (.iadd, 1, []) := by decide +kernel
theorem i222_126 : lk (mi_ins m222) 126 = some (.iastore, 1, []) := by decide +kernel
theorem i222_127 : lk (mi_ins m222) 127 = some (.iinc 2 1, 3, []) := by decide +kernel
theorem i222_130 : lk (mi_ins m222) 130 = some (.goto (-76), 3, []) := by decide +kernel
theorem i222_133 : lk (mi_ins m222) 133 = some (.iconst 0, 1, [1, 2]) := by decide +kernel
theorem i222_134 : lk (mi_ins m222) 134 = some (.istore_n 2, 1, []) := by decide +kernel
theorem i222_135 : lk (mi_ins m222) 135 = some (.iload_n 2, 1, [1]) := by decide +kernel
theorem i222_136 : lk (mi_ins m222) 136 = some (.aload_n 0, 1, []) := by decide +kernel
theorem i222_137 : lk (mi_ins m222) 137 = some (.getfield 360, 3, []) := by decide +kernel
theorem i222_140 : lk (mi_ins m222) 140 = some (.getfield 293, 3, []) := by decide +kernel
theorem i222_143 : lk (mi_ins m222) 143 = some (.if_icmp .ge 27, 3, []) := by decide +kernel
theorem i222_146 : lk (mi_ins m222) 146 = some (.aload_n 0, 1, []) := by decide +kernel
theorem i222_147 : lk (mi_ins m222) 147 = some (.getfield 21, 3, []) := by decide +kernel
theorem i222_150 : lk (mi_ins m222) 150 = some (.bipush 25, 2, []) := by decide +kernel
theorem i222_152 : lk (mi_ins m222) 152 = some (.iload_n 2, 1, []) := by decide +kernel
theorem i222_153 : lk (mi_ins m222) 153 = some (.iadd, 1, []) := by decide +kernel
theorem i222_154 : lk (mi_ins m222) 154 = some (.aload_n 0, 1, []) := by decide +kernel
theorem i222_155 : lk (mi_ins m222) 155 = some (.getfield 360, 3, []) := by decide +kernel
theorem i222_158 : lk (mi_ins m222) 158 = some (.getfield 300, 3, []) := by decide +kernel
theorem i222_161 : lk (mi_ins m222) 161 = some (.iload_n 2, 1, []) := by decide +kernel
theorem i222_162 : lk (mi_ins m222) 162 = some (.iaload, 1, []) := by decide +kernel
theorem i222_163 : lk (mi_ins m222) 163 = some (.iastore, 1, []) := by decide +kernel
theorem i222_164 : lk (mi_ins m222) 164 = some (.iinc 2 1, 3, []) := by decide +kernel
theorem i222_167 : lk (mi_ins m222) 167 = some (.goto (-32), 3, []) := by decide +kernel
theorem i222_170 : lk (mi_ins m222) 170 = some (.return_, 1, [0, 1, 2]) := by decide +kernel
theorem i223_0 : lk (mi_ins m223) 0 = some (.iconst 0, 1, []) := by decide +kernel
theorem i223_1 : lk (mi_ins m223) 1 = some (.iconst 5, 1, []) := by decide +kernel
theorem i223_2 : lk (mi_ins m223) 2 = some (.iload_n 0, 1, []) := by decide +kernel
theorem i223_3 : lk (mi_ins m223) 3 = some (.imul, 1, []) := by decide +kernel
theorem i223_4 : lk (mi_ins m223) 4 = some (.iadd, 1, []) := by decide +kernel
theorem i223_5 : lk (mi_ins m223) 5 = some (.iload_n 1, 1, []) := by decide +kernel
theorem i223_6 : lk (mi_ins m223) 6 = some (.iadd, 1, []) := by decide +kernel
theorem i223_7 : lk (mi_ins m223) 7 = some (.ireturn, 1, []) := by decide +kernel
theorem i224_0 : lk (mi_ins m224) 0 = some (.aload_n 0, 1, []) := by decide +kernel
theorem i224_1 : lk (mi_ins m224) 1 = some (.iconst 0, 1, []) := by decide +kernel
theorem i224_2 : lk (mi_ins m224) 2 = some (.putfield 54, 3, []) := by decide +kernel
theorem i224_5 : lk (mi_ins m224) 5 = some (.aload_n 0, 1, []) := by decide +kernel
theorem i224_6 : lk (mi_ins m224) 6 = some (.iconst (-1), 1, []) := by decide +kernel
theorem i224_7 : lk (mi_ins m224) 7 = some (.putfield 9, 3, []) := by decide +kernel
theorem i224_10 : lk (mi_ins m224) 10 = some (.iload_n 1, 1, []) := by decide +kernel
theorem i224_11 : lk (mi_ins m224) 11 = some (.ireturn, 1, []) := by decide +kernel
theorem i225_0 : lk (mi_ins m225) 0 = some (.aload_n 0, 1, []) := by decide +kernel
theorem i225_1 : lk (mi_ins m225) 1 = some (.iconst 0, 1, []) := by decide +kernel
theorem i225_2 : lk (mi_ins m225) 2 = some (.putfield 51, 3, []) := by decide +kernel
theorem i225_5 : lk (mi_ins m225) 5 = some (.aload_n 0, 1, []) := by decide +kernel
theorem i225_6 : lk (mi_ins m225) 6 = some (.getfield 109, 3, []) := by decide +kernel
theorem i225_9 : lk (mi_ins m225) 9 = some (.ireturn, 1, []) := by decide +kernel
theorem i226_0 : lk (mi_ins m226) 0 = some (.aload_n 0, 1, []) := by decide +kernel
theorem i226_1 : lk (mi_ins m226) 1 = some (.iconst 0, 1, []) := by decide +kernel
theorem i226_2 : lk (mi_ins m226) 2 = some (.putfield 51, 3, []) := by decide +kernel
theorem i226_5 : lk (mi_ins m226) 5 = some (.aload_n 0, 1, []) := by decide +kernel
theorem i226_6 : lk (mi_ins m226) 6 = some (.getfield 9, 3, []) := by decide +kernel
theorem i226_9 : lk (mi_ins m226) 9 = some (.ireturn, 1, []) := by decide +kernel
theorem i227_0 : lk (mi_ins m227) 0 = some (.aload_n 0, 1, []) := by decide +kernel
theorem i227_1 : lk (mi_ins m227) 1 = some (.iconst 0, 1, []) := by decide +kernel
theorem i227_2 : lk (mi_ins m227) 2 = some (.putfield 51, 3, []) := by decide +kernel
theorem i227_5 : lk (mi_ins m227) 5 = some (.aload_n 0, 1, []) := by decide +kernel
theorem i227_6 : lk (mi_ins m227) 6 = some (.iload_n 1, 1, []) := by decide +kernel
theorem i227_7 : lk (mi_ins m227) 7 = some (.invokevirtual 404, 3, []) := by decide +kernel
theorem i227_10 : lk (mi_ins m227) 10 = some (.ifCond .eq 12, 3, []) := by decide +kernel
theorem i227_13 : lk (mi_ins m227) 13 = some (.iload_n 2, 1, []) := by decide +kernel
theorem i227_14 : lk (mi_ins m227) 14 = some (.iconst 0, 1, []) := by decide +kernel
theorem i227_15 : lk (mi_ins m227) 15 = some (.iconst 5, 1, []) := by decide +kernel
theorem i227_16 : lk (mi_ins m227) 16 = some (.invokestatic 130, 3, []) := by decide +kernel
theorem i227_19 : lk (mi_ins m227) 19 = some (.ifCond .ne 9, 3, []) := by decide +kernel
theorem i227_22 : lk (mi_ins m227) 22 = some (.aload_n 0, 1, [1, 2]) := by decide +kernel
theorem i227_23 : lk (mi_ins m227) 23 = some (.iconst 1, 1, []) := by decide +kernel
theorem i227_24 : lk (mi_ins m227) 24 = some (.invokevirtual 57, 3, []) := by decide +kernel
theorem i227_27 : lk (mi_ins m227) 27 = some (.ireturn, 1, []) := by decide +kernel
theorem i227_28 : lk (mi_ins m227) 28 = some (.aload_n 0, 1, []) := by decide +kernel
theorem i227_29 : lk (mi_ins m227) 29 = some (.invokevirtual 407, 3, []) := by decide +kernel
theorem i227_32 : lk (mi_ins m227) 32 = some (.iload_n 2, 1, []) := by decide +kernel
theorem i227_33 : lk (mi_ins m227) 33 = some (.tableswitch 93 0 4 #[35, 49, 59, 69, 83], 35, []) := by decide +kernel
theorem i227_68 : lk (mi_ins m227) 68 = some (.aload_n 0, 1, []) := by decide +kernel
theorem i227_69 : lk (mi_ins m227) 69 = some (.aload_n 0, 1, []) := by decide +kernel
theorem i227_70 : lk (mi_ins m227) 70 = some (.getfield 360, 3, []) := by decide +kernel
theorem i227_73 : lk (mi_ins m227) 73 = some (.getfield 261, 3, []) := by decide +kernel
theorem i227_76 : lk (mi_ins m227) 76 = some (.iload_n 1, 1, []) := by decide +kernel
theorem i227_77 : lk (mi_ins m227) 77 = some (.iaload, 1, []) := by decide +kernel
theorem i227_78 : lk (mi_ins m227) 78 = some (.invokevirtual 61, 3, []) := by decide +kernel
theorem i227_81 : lk (mi_ins m227) 81 = some (.ireturn, 1, []) := by decide +kernel
theorem i227_82 : lk (mi_ins m227) 82 = some (.aload_n 0, 1, []) := by decide +kernel
theorem i227_83 : lk (mi_ins m227) 83 = some (.aload_n 0, 1, []) := by decide +kernel
theorem i227_84 : lk (mi_ins m227) 84 = some (.iload_n 1, 1, []) := by decide +kernel
theorem i227_85 : lk (mi_ins m227) 85 = some (.invokevirtual 380, 3, []) := by decide +kernel
theorem i227_88 : lk (mi_ins m227) 88 = some (.invokevirtual 61, 3, []) := by decide +kernel
theorem i227_91 : lk (mi_ins m227) 91 = some (.ireturn, 1, []) := by decide +kernel
theorem i227_92 : lk (mi_ins m227) 92 = some (.aload_n 0, 1, []) := by decide +kernel
theorem i227_93 : lk (mi_ins m227) 93 = some (.aload_n 0, 1, []) := by decide +kernel
theorem i227_94 : lk (mi_ins m227) 94 = some (.iload_n 1, 1, []) := by decide +kernel
theorem i227_95 : lk (mi_ins m227) 95 = some (.invokevirtual 377, 3, []) := by decide +kernel
theorem i227_98 : lk (mi_ins m227) 98 = some (.invokevirtual 61, 3, []) := by decide +kernel
theorem i227_101 : lk (mi_ins m227) 101 = some (.ireturn, 1, []) := by decide +kernel
theorem i227_102 : lk (mi_ins m227) 102 = some (.aload_n 0, 1, []) := by decide +kernel
theorem i227_103 : lk (mi_ins m227) 103 = some (.sipush 1000, 3, []) := by decide +kernel
theorem i227_106 : lk (mi_ins m227) 106 = some (.aload_n 0, 1, []) := by decide +kernel
theorem i227_107 : lk (mi_ins m227) 107 = some (.iload_n 1, 1, []) := by decide +kernel
theorem i227_108 : lk (mi_ins m227) 108 = some (.invokevirtual 398, 3, []) := by decide +kernel
theorem i227_111 : lk (mi_ins m227) 111 = some (.iadd, 1, []) := by decide +kernel
theorem i227_112 : lk (mi_ins m227) 112 = some (.invokevirtual 61, 3, []) := by decide +kernel
theorem i227_115 : lk (mi_ins m227) 115 = some (.ireturn, 1, []) := by decide +kernel
theorem i227_116 : lk (mi_ins m227) 116 = some (.aload_n 0, 1, []) := by decide +kernel
theorem i227_117 : lk (mi_ins m227) 117 = some (.aload_n 0, 1, []) := by decide +kernel
theorem i227_118 : lk (mi_ins m227) 118 = some (.iload_n 1, 1, []) := by decide +kernel
theorem i227_119 : lk (mi_ins m227) 119 = some (.invokevirtual 386, 3, []) := by decide +kernel
theorem i227_122 : lk (mi_ins m227) 122 = some (.invokevirtual 61, 3, []) := by decide +kernel
theorem i227_125 : lk (mi_ins m227) 125 = some (.ireturn, 1, []) := by decide +kernel
theorem i227_126 : lk (mi_ins m227) 126 = some (.aload_n 0, 1, []) := by decide +kernel
theorem i227_127 : lk (mi_ins m227) 127 = some (.aload_n 0, 1, []) := by decide +kernel
theorem i227_128 : lk (mi_ins m227) 128 = some (.iload_n 1, 1, []) := by decide +kernel
theorem i227_129 : lk (mi_ins m227) 129 = some (.invokevirtual 410, 3, []) := by decide +kernel
theorem i227_132 : lk (mi_ins m227) 132 = some (.invokevirtual 61, 3, []) := by decide +kernel
theorem i227_135 : lk (mi_ins m227) 135 = some (.ireturn, 1, []) := by decide +kernel
theorem i228_0 : lk (mi_ins m228) 0 = some (.aload_n 0, 1, []) := by decide +kernel
theorem i228_1 : lk (mi_ins m228) 1 = some (.getfield 360, 3, []) := by decide +kernel
theorem i228_4 : lk (mi_ins m228) 4 = some (.ifnull 22, 3, []) := by decide +kernel
theorem i228_7 : lk (mi_ins m228) 7 = some (.iload_n 1, 1, []) := by decide +kernel
theorem i228_8 : lk (mi_ins m228) 8 = some (.ifCond .lt 18, 3, []) := by decide +kernel
theorem i228_11 : lk (mi_ins m228) 11 = some (.iload_n 1, 1, []) := by decide +kernel
theorem i228_12 : lk (mi_ins m228) 12 = some (.aload_n 0, 1, []) := by decide +kernel
theorem i228_13 : lk (mi_ins m228) 13 = some (.getfield 360, 3, []) := by decide +kernel
theorem i228_16 : lk (mi_ins m228) 16 = some (.getfield 209, 3, []) := by decide +kernel
theorem i228_19 : lk (mi_ins m228) 19 = some (.if_icmp .ge 7, 3, []) := by decide +kernel
theorem i228_22 : lk (mi_ins m228) 22 = some (.iconst 1, 1, []) := by decide +kernel
theorem i228_23 : lk (mi_ins m228) 23 = some (.goto 4, 3, []) := by decide +kernel
theorem i228_26 : lk (mi_ins m228) 26 = some (.iconst 0, 1, [0, 1]) := by decide +kernel
theorem i228_27 : lk (mi_ins m228) 27 = some (.ireturn, 1, [0, 1]) := by decide +kernel
theorem i229_0 : lk (mi_ins m229) 0 = some (.iconst 0, 1, []) := by decide +kernel
theorem i229_1 : lk (mi_ins m229) 1 = some (.istore_n 1, 1, []) := by decide +kernel
theorem i229_2 : lk (mi_ins m229) 2 = some (.iload_n 1, 1, []) := by decide +kernel
theorem i229_3 : lk (mi_ins m229) 3 = some (.bipush 31, 2, []) := by decide +kernel
theorem i229_5 : lk (mi_ins m229) 5 = some (.if_icmp .ge 21, 3, []) := by decide +kernel
theorem i229_8 : lk (mi_ins m229) 8 = some (.aload_n 0, 1, []) := by decide +kernel
theorem i229_9 : lk (mi_ins m229) 9 = some (.getfield 21, 3, []) := by decide +kernel
theorem i229_12 : lk (mi_ins m229) 12 = some (.iload_n 1, 1, []) := by decide +kernel
theorem i229_13 : lk (mi_ins m229) 13 = some (.aload_n 0, 1, []) := by decide +kernel
theorem i229_14 : lk (mi_ins m229) 14 = some (.getfield 17, 3, []) := by decide +kernel
theorem i229_17 : lk (mi_ins m229) 17 = some (.iload_n 1, 1, []) := by decide +kernel
theorem i229_18 : lk (mi_ins m229) 18 = some (.iaload, 1, []) := by decide +kernel
theorem i229_19 : lk (mi_ins m229) 19 = some (.iastore, 1, []) := by decide +kernel
theorem i229_20 : lk (mi_ins m229) 20 = some (.iinc 1 1, 3, []) := by decide +kernel
theorem i229_23 : lk (mi_ins m229) 23 = some (.goto (-21), 3, []) := by decide +kernel
theorem i229_26 : lk (mi_ins m229) 26 = some (.return_, 1, [0, 1]) := by decide +kernel
theorem i230_0 : lk (mi_ins m230) 0 = some (.aload_n 0, 1, []) := by decide +kernel
theorem i230_1 : lk (mi_ins m230) 1 = some (.getfield 360, 3, []) := by decide +kernel
theorem i230_4 : lk (mi_ins m230) 4 = some (.getfield 264, 3, []) := by decide +kernel
theorem i230_7 : lk (mi_ins m230) 7 = some (.iload_n 1, 1, []) := by decide +kernel
theorem i230_8 : lk (mi_ins m230) 8 = some (.iaload, 1, []) := by decide +kernel
theorem i230_9 : lk (mi_ins m230) 9 = some (.istore_n 2, 1, []) := by decide +kernel
theorem i230_10 : lk (mi_ins m230) 10 = some (.iconst 0, 1, []) := by decide +kernel
theorem i230_11 : lk (mi_ins m230) 11 = some (.istore_n 3, 1, []) := by decide +kernel
theorem i230_12 : lk (mi_ins m230) 12 = some (.iload_n 3, 1, []) := by decide +kernel
theorem i230_13 : lk (mi_ins m230) 13 = some (.aload_n 0, 1, []) := by decide +kernel
theorem i230_14 : lk (mi_ins m230) 14 = some (.getfield 360, 3, []) := by decide +kernel
theorem i230_17 : lk (mi_ins m230) 17 = some (.getfield 293, 3, []) := by decide +kernel
theorem i230_20 : lk (mi_ins m230) 20 = some (.if_icmp .ge 38, 3, []) := by decide +kernel
theorem i230_23 : lk (mi_ins m230) 23 = some (.iload_n 2, 1, []) := by decide +kernel
theorem i230_24 : lk (mi_ins m230) 24 = some (.aload_n 0, 1, []) := by decide +kernel
theorem i230_25 : lk (mi_ins m230) 25 = some (.getfield 21, 3, []) := by decide +kernel
theorem i230_28 : lk (mi_ins m230) 28 = some (.bipush 25, 2, []) := by decide +kernel
theorem i230_30 : lk (mi_ins m230) 30 = some (.iload_n 3, 1, []) := by decide +kernel
theorem i230_31 : lk (mi_ins m230) 31 = some (.iadd, 1, []) := by decide +kernel
theorem i230_32 : lk (mi_ins m230) 32 = some (.iaload, 1, []) := by decide +kernel
theorem i230_33 : lk (mi_ins m230) 33 = some (.iload_n 1, 1, []) := by decide +kernel
theorem i230_34 : lk (mi_ins m230) 34 = some (.if_icmp .ne 15, 3, []) := by decide +kernel
theorem i230_37 : lk (mi_ins m230) 37 = some (.aload_n 0, 1, []) := by decide +kernel
theorem i230_38 : lk (mi_ins m230) 38 = some (.getfield 360, 3, []) := by decide +kernel
theorem i230_41 : lk (mi_ins m230) 41 = some (.getfield 298, 3, []) := by decide +kernel
theorem i230_44 : lk (mi_ins m230) 44 = some (.iload_n 3, 1, []) := by decide +kernel
theorem i230_45 : lk (mi_ins m230) 45 = some (.iaload, 1, []) := by decide +kernel
theorem i230_46 : lk (mi_ins m230) 46 = some (.goto 4, 3, []) := by decide +kernel
theorem i230_49 : lk (mi_ins m230) 49 = some (.iconst 0, 1, []) := by decide +kernel
theorem i230_50 : lk (mi_ins m230) 50 = some (.iadd, 1, [2]) := by decide +kernel
theorem i230_51 : lk (mi_ins m230) 51 = some (.istore_n 2, 1, []) := by decide +kernel
theorem i230_52 : lk (mi_ins m230) 52 = some (.iinc 3 1, 3, []) := by decide +kernel
theorem i230_55 : lk (mi_ins m230) 55 = some (.goto (-43), 3, []) := by decide +kernel
theorem i230_58 : lk (mi_ins m230) 58 = some (.iload_n 2, 1, [0, 1, 3]) := by decide +kernel
theorem i230_59 : lk (mi_ins m230) 59 = some (.ireturn, 1, []) := by decide +kernel
theorem i231_0 : lk (mi_ins m231) 0 = some (.iconst 0, 1, []) := by decide +kernel
theorem i231_1 : lk (mi_ins m231) 1 = some (.istore_n 2, 1, []) := by decide +kernel
theorem i231_2 : lk (mi_ins m231) 2 = some (.iconst 0, 1, []) := by decide +kernel
theorem i231_3 : lk (mi_ins m231) 3 = some (.istore_n 3, 1, []) := by decide +kernel
theorem i231_4 : lk (mi_ins m231) 4 = some (.iload_n 3, 1, []) := by decide +kernel
theorem i231_5 : lk (mi_ins m231) 5 = some (.iconst 5, 1, []) := by decide +kernel
theorem i231_6 : lk (mi_ins m231) 6 = some (.if_icmp .ge 27, 3, []) := by decide +kernel
theorem i231_9 : lk (mi_ins m231) 9 = some (.iload_n 2, 1, []) := by decide +kernel
theorem i231_10 : lk (mi_ins m231) 10 = some (.iload_n 3, 1, []) := by decide +kernel
theorem i231_11 : lk (mi_ins m231) 11 = some (.invokestatic 374, 3, []) := by decide +kernel
theorem i231_14 : lk (mi_ins m231) 14 = some (.aload_n 0, 1, []) := by decide +kernel
theorem i231_15 : lk (mi_ins m231) 15 = some (.getfield 21, 3, []) := by decide +kernel
theorem i231_18 : lk (mi_ins m231) 18 = some (.iload_n 1, 1, []) := by decide +kernel
theorem i231_19 : lk (mi_ins m231) 19 = some (.iload_n 3, 1, []) := by decide +kernel
theorem i231_20 : lk (mi_ins m231) 20 = some (.invokestatic 371, 3, []) := by decide +kernel
theorem i231_23 : lk (mi_ins m231) 23 = some (.iaload, 1, []) := by decide +kernel
theorem i231_24 : lk (mi_ins m231) 24 = some (.imul, 1, []) := by decide +kernel
theorem i231_25 : lk (mi_ins m231) 25 = some (.iadd, 1, []) := by decide +kernel
theorem i231_26 : lk (mi_ins m231) 26 = some (.istore_n 2, 1, []) := by decide +kernel
theorem i231_27 : lk (mi_ins m231) 27 = some (.iinc 3 1, 3, []) := by decide +kernel
theorem i231_30 : lk (mi_ins m231) 30 = some (.goto (-26), 3, []) := by decide +kernel
theorem i231_33 : lk (mi_ins m231) 33 = some (.iload_n 2, 1, [0, 1, 3]) := by decide +kernel
theorem i231_34 : lk (mi_ins m231) 34 = some (.ireturn, 1, []) := by decide +kernel
theorem i232_0 : lk (mi_ins m232) 0 = some (.iload_n 0, 1, []) := by decide +kernel
theorem i232_1 : lk (mi_ins m232) 1 = some (.ifCond .ne 7, 3, []) := by decide +kernel
theorem i232_4 : lk (mi_ins m232) 4 = some (.iconst 3, 1, []) := by decide +kernel
theorem i232_5 : lk (mi_ins m232) 5 = some (.goto 22, 3, []) := by decide +kernel
theorem i232_8 : lk (mi_ins m232) 8 = some (.iload_n 0, 1, []) := by decide +kernel
theorem i232_9 : lk (mi_ins m232) 9 = some (.iconst 2, 1, []) := by decide +kernel
theorem i232_10 : lk (mi_ins m232) 10 = some (.if_icmp .ne 7, 3, []) := by decide +kernel
theorem i232_13 : lk (mi_ins m232) 13 = some (.iconst 1, 1, []) := by decide +kernel
theorem i232_14 : lk (mi_ins m232) 14 = some (.goto 13, 3, []) := by decide +kernel
theorem i232_17 : lk (mi_ins m232) 17 = some (.iload_n 0, 1, []) := by decide +kernel
theorem i232_18 : lk (mi_ins m232) 18 = some (.iconst 4, 1, []) := by decide +kernel
theorem i232_19 : lk (mi_ins m232) 19 = some (.if_icmp .ne 7, 3, []) := by decide +kernel
theorem i232_22 : lk (mi_ins m232) 22 = some (.iconst 4, 1, []) := by decide +kernel
theorem i232_23 : lk (mi_ins m232) 23 = some (.goto 4, 3, []) := by decide +kernel
theorem i232_26 : lk (mi_ins m232) 26 = some (.iconst 2, 1, []) := by decide +kernel
theorem i232_27 : lk (mi_ins m232) 27 = some (.ireturn, 1, [0]) := by decide +kernel
theorem i233_0 : lk (mi_ins m233) 0 = some (.aload_n 0, 1, []) := by decide +kernel
theorem i233_1 : lk (mi_ins m233) 1 = some (.iload_n 1, 1, []) := by decide +kernel
theorem i233_2 : lk (mi_ins m233) 2 = some (.invokevirtual 386, 3, []) := by decide +kernel
theorem i233_5 : lk (mi_ins m233) 5 = some (.istore_n 2, 1, []) := by decide +kernel
theorem i233_6 : lk (mi_ins m233) 6 = some (.aload_n 0, 1, []) := by decide +kernel
theorem i233_7 : lk (mi_ins m233) 7 = some (.iload_n 2, 1, []) := by decide +kernel
theorem i233_8 : lk (mi_ins m233) 8 = some (.invokevirtual 389, 3, []) := by decide +kernel
theorem i233_11 : lk (mi_ins m233) 11 = some (.iload_n 2, 1, []) := by decide +kernel
theorem i233_12 : lk (mi_ins m233) 12 = some (.invokestatic 392, 3, []) := by decide +kernel
theorem i233_15 : lk (mi_ins m233) 15 = some (.invokestatic 395, 3, []) := by decide +kernel
theorem i233_18 : lk (mi_ins m233) 18 = some (.ireturn, 1, []) := by decide +kernel
theorem i234_0 : lk (mi_ins m234) 0 = some (.iconst 1, 1, []) := by decide +kernel
theorem i234_1 : lk (mi_ins m234) 1 = some (.iload_n 1, 1, []) := by decide +kernel
theorem i234_2 : lk (mi_ins m234) 2 = some (.ishl, 1, []) := by decide +kernel
theorem i234_3 : lk (mi_ins m234) 3 = some (.istore_n 2, 1, []) := by decide +kernel
theorem i234_4 : lk (mi_ins m234) 4 = some (.iconst 0, 1, []) := by decide +kernel
theorem i234_5 : lk (mi_ins m234) 5 = some (.istore_n 3, 1, []) := by decide +kernel
theorem i234_6 : lk (mi_ins m234) 6 = some (.iload_n 3, 1, [1, 4]) := by decide +kernel
theorem i234_7 : lk (mi_ins m234) 7 = some (.aload_n 0, 1, []) := by decide +kernel
theorem i234_8 : lk (mi_ins m234) 8 = some (.getfield 360, 3, []) := by decide +kernel
theorem i234_11 : lk (mi_ins m234) 11 = some (.getfield 209, 3, []) := by decide +kernel
theorem i234_14 : lk (mi_ins m234) 14 = some (.if_icmp .ge 112, 3, []) := by decide +kernel
theorem i234_17 : lk (mi_ins m234) 17 = some (.iconst 0, 1, []) := by decide +kernel
theorem i234_18 : lk (mi_ins m234) 18 = some (.istore 4, 2, []) := by decide +kernel
theorem i234_20 : lk (mi_ins m234) 20 = some (.iload 4, 2, [1]) := by decide +kernel
theorem i234_22 : lk (mi_ins m234) 22 = some (.aload_n 0, 1, []) := by decide +kernel
theorem i234_23 : lk (mi_ins m234) 23 = some (.getfield 360, 3, []) := by decide +kernel
theorem i234_26 : lk (mi_ins m234) 26 = some (.getfield 266, 3, []) := by decide +kernel
theorem i234_29 : lk (mi_ins m234) 29 = some (.if_icmp .ge 91, 3, []) := by decide +kernel
theorem i234_32 : lk (mi_ins m234) 32 = some (.aload_n 0, 1, []) := by decide +kernel
theorem i234_33 : lk (mi_ins m234) 33 = some (.getfield 21, 3, []) := by decide +kernel
theorem i234_36 : lk (mi_ins m234) 36 = some (.bipush 28, 2, []) := by decide +kernel
theorem i234_38 : lk (mi_ins m234) 38 = some (.iaload, 1, []) := by decide +kernel
theorem i234_39 : lk (mi_ins m234) 39 = some (.iload 4, 2, []) := by decide +kernel
theorem i234_41 : lk (mi_ins m234) 41 = some (.invokestatic 288, 3, []) := by decide +kernel
theorem i234_44 : lk (mi_ins m234) 44 = some (.ifCond .eq 6, 3, []) := by decide +kernel
theorem i234_47 : lk (mi_ins m234) 47 = some (.goto 67, 3, []) := by decide +kernel
theorem i234_50 : lk (mi_ins m234) 50 = some (.iload_n 2, 1, []) := by decide +kernel
theorem i234_51 : lk (mi_ins m234) 51 = some (.aload_n 0, 1, []) := by decide +kernel
theorem i234_52 : lk (mi_ins m234) 52 = some (.getfield 360, 3, []) := by decide +kernel
theorem i234_55 : lk (mi_ins m234) 55 = some (.getfield 276, 3, []) := by decide +kernel
theorem i234_58 : lk (mi_ins m234) 58 = some (.iload 4, 2, []) := by decide +kernel
theorem i234_60 : lk (mi_ins m234) 60 = some (.iaload, 1, []) := by decide +kernel
theorem i234_61 : lk (mi_ins m234) 61 = some (.invokestatic 288, 3, []) := by decide +kernel
theorem i234_64 : lk (mi_ins m234) 64 = some (.ifCond .eq 18, 3, []) := by decide +kernel
theorem i234_67 : lk (mi_ins m234) 67 = some (.iload_n 2, 1, []) := by decide +kernel
theorem i234_68 : lk (mi_ins m234) 68 = some (.iconst 1, 1, []) := by decide +kernel
theorem i234_69 : lk (mi_ins m234) 69 = some (.aload_n 0, 1, []) := by decide +kernel
theorem i234_70 : lk (mi_ins m234) 70 = some (.getfield 360, 3, []) := by decide +kernel
theorem i234_73 : lk (mi_ins m234) 73 = some (.getfield 279, 3, []) := by decide +kernel
theorem i234_76 : lk (mi_ins m234) 76 = some (.iload 4, 2, []) := by decide +kernel
theorem i234_78 : lk (mi_ins m234) 78 = some (.iaload, 1, []) := by decide +kernel
theorem i234_79 : lk (mi_ins m234) 79 = some (.ishl, 1, []) := by decide +kernel
theorem i234_80 : lk (mi_ins m234) 80 = some (.ior, 1, []) := by decide +kernel
theorem i234_81 : lk (mi_ins m234) 81 = some (.istore_n 2, 1, []) := by decide +kernel
theorem i234_82 : lk (mi_ins m234) 82 = some (.iload_n 2, 1, [1]) := by decide +kernel
theorem i234_83 : lk (mi_ins m234) 83 = some (.aload_n 0, 1, []) := by decide +kernel
theorem i234_84 : lk (mi_ins m234) 84 = some (.getfield 360, 3, []) := by decide +kernel
theorem i234_87 : lk (mi_ins m234) 87 = some (.getfield 279, 3, []) := by decide +kernel
theorem i234_90 : lk (mi_ins m234) 90 = some (.iload 4, 2, []) := by decide +kernel
theorem i234_92 : lk (mi_ins m234) 92 = some (.iaload, 1, []) := by decide +kernel
theorem i234_93 : lk (mi_ins m234) 93 = some (.invokestatic 288, 3, []) := by decide +kernel
theorem i234_96 : lk (mi_ins m234) 96 = some (.ifCond .eq 18, 3, []) := by decide +kernel
theorem i234_99 : lk (mi_ins m234) 99 = some (.iload_n 2, 1, []) := by decide +kernel
theorem i234_100 : lk (mi_ins m234) 100 = some (.iconst 1, 1, []) := by decide +kernel
theorem i234_101 : lk (mi_ins m234) 101 = some (.aload_n 0, 1, []) := by decide +kernel
theorem i234_102 : lk (mi_ins m234) 102 = some (.getfield 360, 3, []) := by decide +kernel
theorem i234_105 : lk (mi_ins m234) 105 = some (.getfield 276, 3, []) := by decide +kernel
theorem i234_108 : lk (mi_ins m234) 108 = some (.iload 4, 2, []) := by decide +kernel
theorem i234_110 : lk (mi_ins m234) 110 = some (.iaload, 1, []) := by decide +kernel
theorem i234_111 : lk (mi_ins m234) 111 = some (.ishl, 1, []) := by decide +kernel
theorem i234_112 : lk (mi_ins m234) 112 = some (.ior, 1, []) := by decide +kernel
theorem i234_113 : lk (mi_ins m234) 113 = some (.istore_n 2, 1, []) := by decide +kernel
theorem i234_114 : lk (mi_ins m234) 114 = some (.iinc 4 1, 3, [1]) := by decide +kernel
theorem i234_117 : lk (mi_ins m234) 117 = some (.goto (-97), 3, []) := by decide +kernel
theorem i234_120 : lk (mi_ins m234) 120 = some (.iinc 3 1, 3, [1, 4]) := by decide +kernel
theorem i234_123 : lk (mi_ins m234) 123 = some (.goto (-117), 3, []) := by decide +kernel
theorem i234_126 : lk (mi_ins m234) 126 = some (.iload_n 2, 1, [0, 1, 3, 4]) := by decide +kernel
theorem i234_127 : lk (mi_ins m234) 127 = some (.ireturn, 1, []) := by decide +kernel
theorem i235_0 : lk (mi_ins m235) 0 = some (.iconst 0, 1, []) := by decide +kernel
theorem i235_1 : lk (mi_ins m235) 1 = some (.istore_n 2, 1, []) := by decide +kernel
theorem i235_2 : lk (mi_ins m235) 2 = some (.iconst 0, 1, []) := by decide +kernel
theorem i235_3 : lk (mi_ins m235) 3 = some (.istore_n 3, 1, []) := by decide +kernel
theorem i235_4 : lk (mi_ins m235) 4 = some (.iload_n 3, 1, []) := by decide +kernel
theorem i235_5 : lk (mi_ins m235) 5 = some (.aload_n 0, 1, []) := by decide +kernel
theorem i235_6 : lk (mi_ins m235) 6 = some (.getfield 360, 3, []) := by decide +kernel
theorem i235_9 : lk (mi_ins m235) 9 = some (.getfield 209, 3, []) := by decide +kernel
theorem i235_12 : lk (mi_ins m235) 12 = some (.if_icmp .ge 29, 3, []) := by decide +kernel
theorem i235_15 : lk (mi_ins m235) 15 = some (.iload_n 2, 1, []) := by decide +kernel
theorem i235_16 : lk (mi_ins m235) 16 = some (.iload_n 1, 1, []) := by decide +kernel
theorem i235_17 : lk (mi_ins m235) 17 = some (.iload_n 3, 1, []) := by decide +kernel
theorem i235_18 : lk (mi_ins m235) 18 = some (.invokestatic 288, 3, []) := by decide +kernel
theorem i235_21 : lk (mi_ins m235) 21 = some (.ifCond .eq 11, 3, []) := by decide +kernel
theorem i235_24 : lk (mi_ins m235) 24 = some (.aload_n 0, 1, []) := by decide +kernel
theorem i235_25 : lk (mi_ins m235) 25 = some (.iload_n 3, 1, []) := by decide +kernel
theorem i235_26 : lk (mi_ins m235) 26 = some (.invokevirtual 383, 3, []) := by decide +kernel
theorem i235_29 : lk (mi_ins m235) 29 = some (.goto 4, 3, []) := by decide +kernel
theorem i235_32 : lk (mi_ins m235) 32 = some (.iconst 0, 1, []) := by decide +kernel
theorem i235_33 : lk (mi_ins m235) 33 = some (.iadd, 1, [2]) := by decide +kernel
theorem i235_34 : lk (mi_ins m235) 34 = some (.istore_n 2, 1, []) := by decide +kernel
theorem i235_35 : lk (mi_ins m235) 35 = some (.iinc 3 1, 3, []) := by decide +kernel
theorem i235_38 : lk (mi_ins m235) 38 = some (.goto (-34), 3, []) := by decide +kernel
theorem i235_41 : lk (mi_ins m235) 41 = some (.iload_n 2, 1, [0, 1, 3]) := by decide +kernel
theorem i235_42 : lk (mi_ins m235) 42 = some (.ireturn, 1, []) := by decide +kernel
theorem i236_0 : lk (mi_ins m236) 0 = some (.aload_n 0, 1, []) := by decide +kernel
theorem i236_1 : lk (mi_ins m236) 1 = some (.iload_n 1, 1, []) := by decide +kernel
theorem i236_2 : lk (mi_ins m236) 2 = some (.invokevirtual 377, 3, []) := by decide +kernel
theorem i236_5 : lk (mi_ins m236) 5 = some (.aload_n 0, 1, []) := by decide +kernel
theorem i236_6 : lk (mi_ins m236) 6 = some (.iload_n 1, 1, []) := by decide +kernel
theorem i236_7 : lk (mi_ins m236) 7 = some (.invokevirtual 380, 3, []) := by decide +kernel
theorem i236_10 : lk (mi_ins m236) 10 = some (.isub, 1, []) := by decide +kernel
theorem i236_11 : lk (mi_ins m236) 11 = some (.ireturn, 1, []) := by decide +kernel
theorem i237_0 : lk (mi_ins m237) 0 = some (.iconst 0, 1, []) := by decide +kernel
theorem i237_1 : lk (mi_ins m237) 1 = some (.istore_n 1, 1, []) := by decide +kernel
theorem i237_2 : lk (mi_ins m237) 2 = some (.iload_n 0, 1, []) := by decide +kernel
theorem i237_3 : lk (mi_ins m237) 3 = some (.istore_n 2, 1, []) := by decide +kernel
theorem i237_4 : lk (mi_ins m237) 4 = some (.iload_n 2, 1, [0]) := by decide +kernel
theorem i237_5 : lk (mi_ins m237) 5 = some (.ifCond .eq 15, 3, []) := by decide +kernel
theorem i237_8 : lk (mi_ins m237) 8 = some (.iinc 1 1, 3, []) := by decide +kernel
theorem i237_11 : lk (mi_ins m237) 11 = some (.iload_n 2, 1, []) := by decide +kernel
theorem i237_12 : lk (mi_ins m237) 12 = some (.iload_n 2, 1, []) := by decide +kernel
theorem i237_13 : lk (mi_ins m237) 13 = some (.iconst 1, 1, []) := by decide +kernel
theorem i237_14 : lk (mi_ins m237) 14 = some (.isub, 1, []) := by decide +kernel
theorem i237_15 : lk (mi_ins m237) 15 = some (.iand, 1, []) := by decide +kernel
theorem i237_16 : lk (mi_ins m237) 16 = some (.istore_n 2, 1, []) := by decide +kernel
theorem i237_17 : lk (mi_ins m237) 17 = some (.goto (-13), 3, []) := by decide +kernel
theorem i237_20 : lk (mi_ins m237) 20 = some (.iload_n 1, 1, [0, 2]) := by decide +kernel
theorem i237_21 : lk (mi_ins m237) 21 = some (.ireturn, 1, []) := by decide +kernel
theorem i238_0 : lk (mi_ins m238) 0 = some (.iload_n 0, 1, []) := by decide +kernel
theorem i238_1 : lk (mi_ins m238) 1 = some (.ifCond .lt 9, 3, []) := by decide +kernel
theorem i238_4 : lk (mi_ins m238) 4 = some (.iload_n 0, 1, []) := by decide +kernel
theorem i238_5 : lk (mi_ins m238) 5 = some (.iload_n 1, 1, []) := by decide +kernel
theorem i238_6 : lk (mi_ins m238) 6 = some (.idiv, 1, []) := by decide +kernel
theorem i238_7 : lk (mi_ins m238) 7 = some (.goto 12, 3, []) := by decide +kernel
theorem i238_10 : lk (mi_ins m238) 10 = some (.iload_n 0, 1, []) := by decide +kernel
theorem i238_11 : lk (mi_ins m238) 11 = some (.ineg, 1, []) := by decide +kernel
theorem i238_12 : lk (mi_ins m238) 12 = some (.iload_n 1, 1, []) := by decide +kernel
theorem i238_13 : lk (mi_ins m238) 13 = some (.iadd, 1, []) := by decide +kernel
theorem i238_14 : lk (mi_ins m238) 14 = some (.iconst 1, 1, []) := by decide +kernel
theorem i238_15 : lk (mi_ins m238) 15 = some (.isub, 1, []) := by decide +kernel
theorem i238_16 : lk (mi_ins m238) 16 = some (.iload_n 1, 1, []) := by decide +kernel
theorem i238_17 : lk (mi_ins m238) 17 = some (.idiv, 1, []) := by decide +kernel
theorem i238_18 : lk (mi_ins m238) 18 = some (.ineg, 1, []) := by decide +kernel
theorem i238_19 : lk (mi_ins m238) 19 = some (.ireturn, 1, [0, 1]) := by decide +kernel
theorem i239_0 : lk (mi_ins m239) 0 = some (.iconst 0, 1, []) := by decide +kernel
theorem i239_1 : lk (mi_ins m239) 1 = some (.istore_n 2, 1, []) := by decide +kernel
theorem i239_2 : lk (mi_ins m239) 2 = some (.iconst 0, 1, []) := by decide +kernel
theorem i239_3 : lk (mi_ins m239) 3 = some (.istore_n 3, 1, []) := by decide +kernel
theorem i239_4 : lk (mi_ins m239) 4 = some (.iload_n 3, 1, []) := by decide +kernel
theorem i239_5 : lk (mi_ins m239) 5 = some (.aload_n 0, 1, []) := by decide +kernel
theorem i239_6 : lk (mi_ins m239) 6 = some (.getfield 360, 3, []) := by decide +kernel
theorem i239_9 : lk (mi_ins m239) 9 = some (.getfield 293, 3, []) := by decide +kernel
theorem i239_12 : lk (mi_ins m239) 12 = some (.if_icmp .ge 32, 3, []) := by decide +kernel
theorem i239_15 : lk (mi_ins m239) 15 = some (.iload_n 2, 1, []) := by decide +kernel
theorem i239_16 : lk (mi_ins m239) 16 = some (.aload_n 0, 1, []) := by decide +kernel
theorem i239_17 : lk (mi_ins m239) 17 = some (.getfield 21, 3, []) := by decide +kernel
theorem i239_20 : lk (mi_ins m239) 20 = some (.bipush 25, 2, []) := by decide +kernel
theorem i239_22 : lk (mi_ins m239) 22 = some (.iload_n 3, 1, []) := by decide +kernel
theorem i239_23 : lk (mi_ins m239) 23 = some (.iadd, 1, []) := by decide +kernel
theorem i239_24 : lk (mi_ins m239) 24 = some (.iaload, 1, []) := by decide +kernel
theorem i239_25 : lk (mi_ins m239) 25 = some (.iload_n 1, 1, []) := by decide +kernel
theorem i239_26 : lk (mi_ins m239) 26 = some (.if_icmp .ne 9, 3, []) := by decide +kernel
theorem i239_29 : lk (mi_ins m239) 29 = some (.iconst 1, 1, []) := by decide +kernel
theorem i239_30 : lk (mi_ins m239) 30 = some (.iload_n 3, 1, []) := by decide +kernel
theorem i239_31 : lk (mi_ins m239) 31 = some (.ishl, 1, []) := by decide +kernel
theorem i239_32 : lk (mi_ins m239) 32 = some (.goto 4, 3, []) := by decide +kernel
theorem i239_35 : lk (mi_ins m239) 35 = some (.iconst 0, 1, []) := by decide +kernel
theorem i239_36 : lk (mi_ins m239) 36 = some (.ior, 1, [2]) := by decide +kernel
theorem i239_37 : lk (mi_ins m239) 37 = some (.istore_n 2, 1, []) := by decide +kernel
theorem i239_38 : lk (mi_ins m239) 38 = some (.iinc 3 1, 3, []) := by decide +kernel
theorem i239_41 : lk (mi_ins m239) 41 = some (.goto (-37), 3, []) := by decide +kernel
theorem i239_44 : lk (mi_ins m239) 44 = some (.iload_n 2, 1, [0, 1, 3]) := by decide +kernel
theorem i239_45 : lk (mi_ins m239) 45 = some (.ireturn, 1, []) := by decide +kernel
theorem i240_0 : lk (mi_ins m240) 0 = some (.aload_n 0, 1, []) := by decide +kernel
theorem i240_1 : lk (mi_ins m240) 1 = some (.iconst 0, 1, []) := by decide +kernel
theorem i240_2 : lk (mi_ins m240) 2 = some (.putfield 51, 3, []) := by decide +kernel
theorem i240_5 : lk (mi_ins m240) 5 = some (.aload_n 0, 1, []) := by decide +kernel
theorem i240_6 : lk (mi_ins m240) 6 = some (.iload_n 1, 1, []) := by decide +kernel
theorem i240_7 : lk (mi_ins m240) 7 = some (.invokevirtual 404, 3, []) := by decide +kernel
theorem i240_10 : lk (mi_ins m240) 10 = some (.ifCond .ne 9, 3, []) := by decide +kernel
theorem i240_13 : lk (mi_ins m240) 13 = some (.aload_n 0, 1, []) := by decide +kernel
theorem i240_14 : lk (mi_ins m240) 14 = some (.iconst 1, 1, []) := by decide +kernel
theorem i240_15 : lk (mi_ins m240) 15 = some (.invokevirtual 57, 3, []) := by decide +kernel
theorem i240_18 : lk (mi_ins m240) 18 = some (.ireturn, 1, []) := by decide +kernel
theorem i240_19 : lk (mi_ins m240) 19 = some (.iload_n 2, 1, []) := by decide +kernel
theorem i240_20 : lk (mi_ins m240) 20 = some (.iconst 0, 1, []) := by decide +kernel
theorem i240_21 : lk (mi_ins m240) 21 = some (.iconst 4, 1, []) := by decide +kernel
theorem i240_22 : lk (mi_ins m240) 22 = some (.invokestatic 130, 3, []) := by decide +kernel
theorem i240_25 : lk (mi_ins m240) 25 = some (.ifCond .eq 20, 3, []) := by decide +kernel
theorem i240_28 : lk (mi_ins m240) 28 = some (.aload_n 0, 1, []) := by decide +kernel
theorem i240_29 : lk (mi_ins m240) 29 = some (.aload_n 0, 1, []) := by decide +kernel
theorem i240_30 : lk (mi_ins m240) 30 = some (.getfield 17, 3, []) := by decide +kernel
theorem i240_33 : lk (mi_ins m240) 33 = some (.iload_n 1, 1, []) := by decide +kernel
theorem i240_34 : lk (mi_ins m240) 34 = some (.iload_n 2, 1, []) := by decide +kernel
theorem i240_35 : lk (mi_ins m240) 35 = some (.invokestatic 371, 3, []) := by decide +kernel
theorem i240_38 : lk (mi_ins m240) 38 = some (.iaload, 1, []) := by decide +kernel
theorem i240_39 : lk (mi_ins m240) 39 = some (.invokevirtual 61, 3, []) := by decide +kernel
theorem i240_42 : lk (mi_ins m240) 42 = some (.goto 8, 3, []) := by decide +kernel
theorem i240_45 : lk (mi_ins m240) 45 = some (.aload_n 0, 1, []) := by decide +kernel
theorem i240_46 : lk (mi_ins m240) 46 = some (.iconst 2, 1, []) := by decide +kernel
theorem i240_47 : lk (mi_ins m240) 47 = some (.invokevirtual 57, 3, []) := by decide +kernel
theorem i240_50 : lk (mi_ins m240) 50 = some (.ireturn, 1, [0, 1, 2]) := by decide +kernel
theorem i241_0 : lk (mi_ins m241) 0 = some (.aload_n 0, 1, []) := by decide +kernel
theorem i241_1 : lk (mi_ins m241) 1 = some (.iconst 0, 1, []) := by decide +kernel
theorem i241_2 : lk (mi_ins m241) 2 = some (.putfield 51, 3, []) := by decide +kernel
theorem i241_5 : lk (mi_ins m241) 5 = some (.aload_n 0, 1, []) := by decide +kernel
theorem i241_6 : lk (mi_ins m241) 6 = some (.iload_n 1, 1, []) := by decide +kernel
theorem i241_7 : lk (mi_ins m241) 7 = some (.invokevirtual 413, 3, []) := by decide +kernel
theorem i241_10 : lk (mi_ins m241) 10 = some (.ifCond .eq 12, 3, []) := by decide +kernel
theorem i241_13 : lk (mi_ins m241) 13 = some (.iload_n 2, 1, []) := by decide +kernel
theorem i241_14 : lk (mi_ins m241) 14 = some (.iconst 0, 1, []) := by decide +kernel
theorem i241_15 : lk (mi_ins m241) 15 = some (.iconst 1, 1, []) := by decide +kernel
theorem i241_16 : lk (mi_ins m241) 16 = some (.invokestatic 130, 3, []) := by decide +kernel
theorem i241_19 : lk (mi_ins m241) 19 = some (.ifCond .ne 9, 3, []) := by decide +kernel
theorem i241_22 : lk (mi_ins m241) 22 = some (.aload_n 0, 1, [1, 2]) := by decide +kernel
theorem i241_23 : lk (mi_ins m241) 23 = some (.iconst 1, 1, []) := by decide +kernel
theorem i241_24 : lk (mi_ins m241) 24 = some (.invokevirtual 57, 3, []) := by decide +kernel
theorem i241_27 : lk (mi_ins m241) 27 = some (.ireturn, 1, []) := by decide +kernel
theorem i241_28 : lk (mi_ins m241) 28 = some (.aload_n 0, 1, []) := by decide +kernel
theorem i241_29 : lk (mi_ins m241) 29 = some (.iload_n 2, 1, []) := by decide +kernel
theorem i241_30 : lk (mi_ins m241) 30 = some (.ifCond .ne 15, 3, []) := by decide +kernel
theorem i241_33 : lk (mi_ins m241) 33 = some (.aload_n 0, 1, []) := by decide +kernel
theorem i241_34 : lk (mi_ins m241) 34 = some (.getfield 360, 3, []) := by decide +kernel
theorem i241_37 : lk (mi_ins m241) 37 = some (.getfield 298, 3, []) := by decide +kernel
theorem i241_40 : lk (mi_ins m241) 40 = some (.iload_n 1, 1, []) := by decide +kernel
theorem i241_41 : lk (mi_ins m241) 41 = some (.iaload, 1, []) := by decide +kernel
theorem i241_42 : lk (mi_ins m241) 42 = some (.goto 12, 3, []) := by decide +kernel
theorem i241_45 : lk (mi_ins m241) 45 = some (.aload_n 0, 1, []) := by decide +kernel
theorem i241_46 : lk (mi_ins m241) 46 = some (.getfield 17, 3, []) := by decide +kernel
theorem i241_49 : lk (mi_ins m241) 49 = some (.bipush 25, 2, []) := by decide +kernel
theorem i241_51 : lk (mi_ins m241) 51 = some (.iload_n 1, 1, []) := by decide +kernel
theorem i241_52 : lk (mi_ins m241) 52 = some (.iadd, 1, []) := by decide +kernel
theorem i241_53 : lk (mi_ins m241) 53 = some (.iaload, 1, []) := by decide +kernel
theorem i241_54 : lk (mi_ins m241) 54 = some (.invokevirtual 61, 3, [0, 1, 2]) := by decide +kernel
theorem i241_57 : lk (mi_ins m241) 57 = some (.ireturn, 1, []) := by decide +kernel
theorem i242_0 : lk (mi_ins m242) 0 = some (.aload_n 0, 1, []) := by decide +kernel
theorem i242_1 : lk (mi_ins m242) 1 = some (.getfield 360, 3, []) := by decide +kernel
theorem i242_4 : lk (mi_ins m242) 4 = some (.ifnull 22, 3, []) := by decide +kernel
theorem i242_7 : lk (mi_ins m242) 7 = some (.iload_n 1, 1, []) := by decide +kernel
theorem i242_8 : lk (mi_ins m242) 8 = some (.ifCond .lt 18, 3, []) := by decide +kernel
theorem i242_11 : lk (mi_ins m242) 11 = some (.iload_n 1, 1, []) := by decide +kernel
theorem i242_12 : lk (mi_ins m242) 12 = some (.aload_n 0, 1, []) := by decide +kernel
theorem i242_13 : lk (mi_ins m242) 13 = some (.getfield 360, 3, []) := by decide +kernel
theorem i242_16 : lk (mi_ins m242) 16 = some (.getfield 293, 3, []) := by decide +kernel
theorem i242_19 : lk (mi_ins m242) 19 = some (.if_icmp .ge 7, 3, []) := by decide +kernel
theorem i242_22 : lk (mi_ins m242) 22 = some (.iconst 1, 1, []) := by decide +kernel
theorem i242_23 : lk (mi_ins m242) 23 = some (.goto 4, 3, []) := by decide +kernel
theorem i242_26 : lk (mi_ins m242) 26 = some (.iconst 0, 1, [0, 1]) := by decide +kernel
theorem i242_27 : lk (mi_ins m242) 27 = some (.ireturn, 1, [0, 1]) := by decide +kernel
theorem i243_0 : lk (mi_ins m243) 0 = some (.aload_n 0, 1, []) := by decide +kernel
theorem i243_1 : lk (mi_ins m243) 1 = some (.iconst 0, 1, []) := by decide +kernel
theorem i243_2 : lk (mi_ins m243) 2 = some (.putfield 51, 3, []) := by decide +kernel
theorem i243_5 : lk (mi_ins m243) 5 = some (.aload_n 0, 1, []) := by decide +kernel
theorem i243_6 : lk (mi_ins m243) 6 = some (.iload_n 1, 1, []) := by decide +kernel
theorem i243_7 : lk (mi_ins m243) 7 = some (.invokevirtual 416, 3, []) := by decide +kernel
theorem i243_10 : lk (mi_ins m243) 10 = some (.ifCond .eq 12, 3, []) := by decide +kernel
theorem i243_13 : lk (mi_ins m243) 13 = some (.iload_n 2, 1, []) := by decide +kernel
theorem i243_14 : lk (mi_ins m243) 14 = some (.iconst 0, 1, []) := by decide +kernel
theorem i243_15 : lk (mi_ins m243) 15 = some (.iconst 2, 1, []) := by decide +kernel
theorem i243_16 : lk (mi_ins m243) 16 = some (.invokestatic 130, 3, []) := by decide +kernel
theorem i243_19 : lk (mi_ins m243) 19 = some (.ifCond .ne 9, 3, []) := by decide +kernel
theorem i243_22 : lk (mi_ins m243) 22 = some (.aload_n 0, 1, [1, 2]) := by decide +kernel
theorem i243_23 : lk (mi_ins m243) 23 = some (.iconst 1, 1, []) := by decide +kernel
theorem i243_24 : lk (mi_ins m243) 24 = some (.invokevirtual 57, 3, []) := by decide +kernel
theorem i243_27 : lk (mi_ins m243) 27 = some (.ireturn, 1, []) := by decide +kernel
theorem i243_28 : lk (mi_ins m243) 28 = some (.aload_n 0, 1, []) := by decide +kernel
theorem i243_29 : lk (mi_ins m243) 29 = some (.iload_n 2, 1, []) := by decide +kernel
theorem i243_30 : lk (mi_ins m243) 30 = some (.ifCond .ne 15, 3, []) := by decide +kernel
theorem i243_33 : lk (mi_ins m243) 33 = some (.aload_n 0, 1, []) := by decide +kernel
theorem i243_34 : lk (mi_ins m243) 34 = some (.getfield 360, 3, []) := by decide +kernel
theorem i243_37 : lk (mi_ins m243) 37 = some (.getfield 276, 3, []) := by decide +kernel
theorem i243_40 : lk (mi_ins m243) 40 = some (.iload_n 1, 1, []) := by decide +kernel
theorem i243_41 : lk (mi_ins m243) 41 = some (.iaload, 1, []) := by decide +kernel
theorem i243_42 : lk (mi_ins m243) 42 = some (.goto 39, 3, []) := by decide +kernel
theorem i243_45 : lk (mi_ins m243) 45 = some (.iload_n 2, 1, []) := by decide +kernel
theorem i243_46 : lk (mi_ins m243) 46 = some (.iconst 1, 1, []) := by decide +kernel
theorem i243_47 : lk (mi_ins m243) 47 = some (.if_icmp .ne 15, 3, []) := by decide +kernel
theorem i243_50 : lk (mi_ins m243) 50 = some (.aload_n 0, 1, []) := by decide +kernel
theorem i243_51 : lk (mi_ins m243) 51 = some (.getfield 360, 3, []) := by decide +kernel
theorem i243_54 : lk (mi_ins m243) 54 = some (.getfield 279, 3, []) := by decide +kernel
theorem i243_57 : lk (mi_ins m243) 57 = some (.iload_n 1, 1, []) := by decide +kernel
theorem i243_58 : lk (mi_ins m243) 58 = some (.iaload, 1, []) := by decide +kernel
theorem i243_59 : lk (mi_ins m243) 59 = some (.goto 22, 3, []) := by decide +kernel
theorem i243_62 : lk (mi_ins m243) 62 = some (.aload_n 0, 1, []) := by decide +kernel
theorem i243_63 : lk (mi_ins m243) 63 = some (.getfield 17, 3, []) := by decide +kernel
theorem i243_66 : lk (mi_ins m243) 66 = some (.bipush 28, 2, []) := by decide +kernel
theorem i243_68 : lk (mi_ins m243) 68 = some (.iaload, 1, []) := by decide +kernel
theorem i243_69 : lk (mi_ins m243) 69 = some (.iload_n 1, 1, []) := by decide +kernel
theorem i243_70 : lk (mi_ins m243) 70 = some (.invokestatic 288, 3, []) := by decide +kernel
theorem i243_73 : lk (mi_ins m243) 73 = some (.ifCond .eq 7, 3, []) := by decide +kernel
theorem i243_76 : lk (mi_ins m243) 76 = some (.iconst 0, 1, []) := by decide +kernel
theorem i243_77 : lk (mi_ins m243) 77 = some (.goto 4, 3, []) := by decide +kernel
theorem i243_80 : lk (mi_ins m243) 80 = some (.iconst 1, 1, []) := by decide +kernel
theorem i243_81 : lk (mi_ins m243) 81 = some (.invokevirtual 61, 3, [0, 1, 2]) := by decide +kernel
theorem i243_84 : lk (mi_ins m243) 84 = some (.ireturn, 1, []) := by decide +kernel
theorem i244_0 : lk (mi_ins m244) 0 = some (.aload_n 0, 1, []) := by decide +kernel
theorem i244_1 : lk (mi_ins m244) 1 = some (.getfield 360, 3, []) := by decide +kernel
theorem i244_4 : lk (mi_ins m244) 4 = some (.ifnull 22, 3, []) := by decide +kernel
theorem i244_7 : lk (mi_ins m244) 7 = some (.iload_n 1, 1, []) := by decide +kernel
theorem i244_8 : lk (mi_ins m244) 8 = some (.ifCond .lt 18, 3, []) := by decide +kernel
theorem i244_11 : lk (mi_ins m244) 11 = some (.iload_n 1, 1, []) := by decide +kernel
theorem i244_12 : lk (mi_ins m244) 12 = some (.aload_n 0, 1, []) := by decide +kernel
theorem i244_13 : lk (mi_ins m244) 13 = some (.getfield 360, 3, []) := by decide +kernel
theorem i244_16 : lk (mi_ins m244) 16 = some (.getfield 266, 3, []) := by decide +kernel
theorem i244_19 : lk (mi_ins m244) 19 = some (.if_icmp .ge 7, 3, []) := by decide +kernel
theorem i244_22 : lk (mi_ins m244) 22 = some (.iconst 1, 1, []) := by decide +kernel
theorem i244_23 : lk (mi_ins m244) 23 = some (.goto 4, 3, []) := by decide +kernel
theorem i244_26 : lk (mi_ins m244) 26 = some (.iconst 0, 1, [0, 1]) := by decide +kernel
theorem i244_27 : lk (mi_ins m244) 27 = some (.ireturn, 1, [0, 1]) := by decide +kernel
theorem i245_0 : lk (mi_ins m245) 0 = some (.aload_n 0, 1, []) := by decide +kernel
theorem i245_1 : lk (mi_ins m245) 1 = some (.iconst 0, 1, []) := by decide +kernel
theorem i245_2 : lk (mi_ins m245) 2 = some (.putfield 51, 3, []) := by decide +kernel
theorem i245_5 : lk (mi_ins m245) 5 = some (.aload_n 0, 1, []) := by decide +kernel
theorem i245_6 : lk (mi_ins m245) 6 = some (.getfield 360, 3, []) := by decide +kernel
theorem i245_9 : lk (mi_ins m245) 9 = some (.ifnonnull 9, 3, []) := by decide +kernel
theorem i245_12 : lk (mi_ins m245) 12 = some (.aload_n 0, 1, []) := by decide +kernel
theorem i245_13 : lk (mi_ins m245) 13 = some (.iconst 1, 1, []) := by decide +kernel
theorem i245_14 : lk (mi_ins m245) 14 = some (.invokevirtual 57, 3, []) := by decide +kernel
theorem i245_17 : lk (mi_ins m245) 17 = some (.ireturn, 1, []) := by decide +kernel
theorem i245_18 : lk (mi_ins m245) 18 = some (.aload_n 0, 1, []) := by decide +kernel
theorem i245_19 : lk (mi_ins m245) 19 = some (.invokevirtual 407, 3, []) := by decide +kernel
theorem i245_22 : lk (mi_ins m245) 22 = some (.aload_n 0, 1, []) := by decide +kernel
theorem i245_23 : lk (mi_ins m245) 23 = some (.aload_n 0, 1, []) := by decide +kernel
theorem i245_24 : lk (mi_ins m245) 24 = some (.invokevirtual 419, 3, []) := by decide +kernel
theorem i245_27 : lk (mi_ins m245) 27 = some (.invokevirtual 61, 3, []) := by decide +kernel
theorem i245_30 : lk (mi_ins m245) 30 = some (.ireturn, 1, []) := by decide +kernel
theorem i246_0 : lk (mi_ins m246) 0 = some (.iconst 0, 1, []) := by decide +kernel
theorem i246_1 : lk (mi_ins m246) 1 = some (.istore_n 1, 1, []) := by decide +kernel
theorem i246_2 : lk (mi_ins m246) 2 = some (.iconst 0, 1, []) := by decide +kernel
theorem i246_3 : lk (mi_ins m246) 3 = some (.istore_n 2, 1, []) := by decide +kernel
theorem i246_4 : lk (mi_ins m246) 4 = some (.iload_n 2, 1, []) := by decide +kernel
theorem i246_5 : lk (mi_ins m246) 5 = some (.aload_n 0, 1, []) := by decide +kernel
theorem i246_6 : lk (mi_ins m246) 6 = some (.getfield 360, 3, []) := by decide +kernel
theorem i246_9 : lk (mi_ins m246) 9 = some (.getfield 209, 3, []) := by decide +kernel
theorem i246_12 : lk (mi_ins m246) 12 = some (.if_icmp .ge 27, 3, []) := by decide +kernel
theorem i246_15 : lk (mi_ins m246) 15 = some (.iload_n 1, 1, []) := by decide +kernel
theorem i246_16 : lk (mi_ins m246) 16 = some (.aload_n 0, 1, []) := by decide +kernel
theorem i246_17 : lk (mi_ins m246) 17 = some (.iload_n 2, 1, []) := by decide +kernel
theorem i246_18 : lk (mi_ins m246) 18 = some (.invokevirtual 398, 3, []) := by decide +kernel
theorem i246_21 : lk (mi_ins m246) 21 = some (.ifCond .ge 9, 3, []) := by decide +kernel
theorem i246_24 : lk (mi_ins m246) 24 = some (.iconst 1, 1, []) := by decide +kernel
theorem i246_25 : lk (mi_ins m246) 25 = some (.iload_n 2, 1, []) := by decide +kernel
theorem i246_26 : lk (mi_ins m246) 26 = some (.ishl, 1, []) := by decide +kernel
theorem i246_27 : lk (mi_ins m246) 27 = some (.goto 4, 3, []) := by decide +kernel
theorem i246_30 : lk (mi_ins m246) 30 = some (.iconst 0, 1, []) := by decide +kernel
theorem i246_31 : lk (mi_ins m246) 31 = some (.ior, 1, [1]) := by decide +kernel
theorem i246_32 : lk (mi_ins m246) 32 = some (.istore_n 1, 1, []) := by decide +kernel
theorem i246_33 : lk (mi_ins m246) 33 = some (.iinc 2 1, 3, []) := by decide +kernel
theorem i246_36 : lk (mi_ins m246) 36 = some (.goto (-32), 3, []) := by decide +kernel
theorem i246_39 : lk (mi_ins m246) 39 = some (.iload_n 1, 1, [0, 2]) := by decide +kernel
theorem i246_40 : lk (mi_ins m246) 40 = some (.ireturn, 1, []) := by decide +kernel
theorem i247_0 : lk (mi_ins m247) 0 = some (.aload_n 0, 1, []) := by decide +kernel
theorem i247_1 : lk (mi_ins m247) 1 = some (.iconst 0, 1, []) := by decide +kernel
theorem i247_2 : lk (mi_ins m247) 2 = some (.putfield 51, 3, []) := by decide +kernel
theorem i247_5 : lk (mi_ins m247) 5 = some (.aload_n 0, 1, []) := by decide +kernel
theorem i247_6 : lk (mi_ins m247) 6 = some (.getfield 360, 3, []) := by decide +kernel
theorem i247_9 : lk (mi_ins m247) 9 = some (.ifnonnull 9, 3, []) := by decide +kernel
theorem i247_12 : lk (mi_ins m247) 12 = some (.aload_n 0, 1, []) := by decide +kernel
theorem i247_13 : lk (mi_ins m247) 13 = some (.iconst 1, 1, []) := by decide +kernel
theorem i247_14 : lk (mi_ins m247) 14 = some (.invokevirtual 57, 3, []) := by decide +kernel
theorem i247_17 : lk (mi_ins m247) 17 = some (.ireturn, 1, []) := by decide +kernel
theorem i247_18 : lk (mi_ins m247) 18 = some (.aload_n 0, 1, []) := by decide +kernel
theorem i247_19 : lk (mi_ins m247) 19 = some (.invokevirtual 407, 3, []) := by decide +kernel
theorem i247_22 : lk (mi_ins m247) 22 = some (.aload_n 0, 1, []) := by decide +kernel
theorem i247_23 : lk (mi_ins m247) 23 = some (.aload_n 0, 1, []) := by decide +kernel
theorem i247_24 : lk (mi_ins m247) 24 = some (.invokevirtual 422, 3, []) := by decide +kernel
theorem i247_27 : lk (mi_ins m247) 27 = some (.invokevirtual 61, 3, []) := by decide +kernel
theorem i247_30 : lk (mi_ins m247) 30 = some (.ireturn, 1, []) := by decide +kernel
theorem i248_0 : lk (mi_ins m248) 0 = some (.iconst 0, 1, []) := by decide +kernel
theorem i248_1 : lk (mi_ins m248) 1 = some (.istore_n 1, 1, []) := by decide +kernel
theorem i248_2 : lk (mi_ins m248) 2 = some (.iconst 1, 1, []) := by decide +kernel
theorem i248_3 : lk (mi_ins m248) 3 = some (.istore_n 2, 1, []) := by decide +kernel
theorem i248_4 : lk (mi_ins m248) 4 = some (.iload_n 2, 1, []) := by decide +kernel
theorem i248_5 : lk (mi_ins m248) 5 = some (.aload_n 0, 1, []) := by decide +kernel
theorem i248_6 : lk (mi_ins m248) 6 = some (.getfield 360, 3, []) := by decide +kernel
theorem i248_9 : lk (mi_ins m248) 9 = some (.getfield 209, 3, []) := by decide +kernel
theorem i248_12 : lk (mi_ins m248) 12 = some (.if_icmp .ge 24, 3, []) := by decide +kernel
theorem i248_15 : lk (mi_ins m248) 15 = some (.aload_n 0, 1, []) := by decide +kernel
theorem i248_16 : lk (mi_ins m248) 16 = some (.iload_n 2, 1, []) := by decide +kernel
theorem i248_17 : lk (mi_ins m248) 17 = some (.invokevirtual 398, 3, []) := by decide +kernel
theorem i248_20 : lk (mi_ins m248) 20 = some (.aload_n 0, 1, []) := by decide +kernel
theorem i248_21 : lk (mi_ins m248) 21 = some (.iload_n 1, 1, []) := by decide +kernel
theorem i248_22 : lk (mi_ins m248) 22 = some (.invokevirtual 398, 3, []) := by decide +kernel
theorem i248_25 : lk (mi_ins m248) 25 = some (.if_icmp .ge 5, 3, []) := by decide +kernel
theorem i248_28 : lk (mi_ins m248) 28 = some (.iload_n 2, 1, []) := by decide +kernel
theorem i248_29 : lk (mi_ins m248) 29 = some (.istore_n 1, 1, []) := by decide +kernel
theorem i248_30 : lk (mi_ins m248) 30 = some (.iinc 2 1, 3, []) := by decide +kernel
theorem i248_33 : lk (mi_ins m248) 33 = some (.goto (-29), 3, []) := by decide +kernel
theorem i248_36 : lk (mi_ins m248) 36 = some (.iload_n 1, 1, [0, 2]) := by decide +kernel
theorem i248_37 : lk (mi_ins m248) 37 = some (.ireturn, 1, []) := by decide +kernel
theorem i249_0 : lk (mi_ins m249) 0 = some (.aload_n 0, 1, []) := by decide +kernel
theorem i249_1 : lk (mi_ins m249) 1 = some (.iconst 0, 1, []) := by decide +kernel
theorem i249_2 : lk (mi_ins m249) 2 = some (.putfield 51, 3, []) := by decide +kernel
theorem i249_5 : lk (mi_ins m249) 5 = some (.aload_n 0, 1, []) := by decide +kernel
theorem i249_6 : lk (mi_ins m249) 6 = some (.getfield 360, 3, []) := by decide +kernel
theorem i249_9 : lk (mi_ins m249) 9 = some (.ifnonnull 9, 3, []) := by decide +kernel
theorem i249_12 : lk (mi_ins m249) 12 = some (.aload_n 0, 1, []) := by decide +kernel
theorem i249_13 : lk (mi_ins m249) 13 = some (.iconst 1, 1, []) := by decide +kernel
theorem i249_14 : lk (mi_ins m249) 14 = some (.invokevirtual 57, 3, []) := by decide +kernel
theorem i249_17 : lk (mi_ins m249) 17 = some (.ireturn, 1, []) := by decide +kernel
theorem i249_18 : lk (mi_ins m249) 18 = some (.aload_n 0, 1, []) := by decide +kernel
theorem i249_19 : lk (mi_ins m249) 19 = some (.invokevirtual 407, 3, []) := by decide +kernel
theorem i249_22 : lk (mi_ins m249) 22 = some (.iconst 0, 1, []) := by decide +kernel
theorem i249_23 : lk (mi_ins m249) 23 = some (.istore_n 1, 1, []) := by decide +kernel
theorem i249_24 : lk (mi_ins m249) 24 = some (.iconst 0, 1, []) := by decide +kernel
theorem i249_25 : lk (mi_ins m249) 25 = some (.istore_n 2, 1, []) := by decide +kernel
theorem i249_26 : lk (mi_ins m249) 26 = some (.iload_n 2, 1, []) := by decide +kernel
theorem i249_27 : lk (mi_ins m249) 27 = some (.aload_n 0, 1, []) := by decide +kernel
theorem i249_28 : lk (mi_ins m249) 28 = some (.getfield 360, 3, []) := by decide +kernel
theorem i249_31 : lk (mi_ins m249) 31 = some (.getfield 209, 3, []) := by decide +kernel
theorem i249_34 : lk (mi_ins m249) 34 = some (.if_icmp .ge 31, 3, []) := by decide +kernel
theorem i249_37 : lk (mi_ins m249) 37 = some (.iload_n 1, 1, []) := by decide +kernel
theorem i249_38 : lk (mi_ins m249) 38 = some (.aload_n 0, 1, []) := by decide +kernel
theorem i249_39 : lk (mi_ins m249) 39 = some (.iload_n 2, 1, []) := by decide +kernel
theorem i249_40 : lk (mi_ins m249) 40 = some (.invokevirtual 386, 3, []) := by decide +kernel
theorem i249_43 : lk (mi_ins m249) 43 = some (.iconst 1, 1, []) := by decide +kernel
theorem i249_44 : lk (mi_ins m249) 44 = some (.iload_n 2, 1, []) := by decide +kernel
theorem i249_45 : lk (mi_ins m249) 45 = some (.ishl, 1, []) := by decide +kernel
theorem i249_46 : lk (mi_ins m249) 46 = some (.iconst 1, 1, []) := by decide +kernel
theorem i249_47 : lk (mi_ins m249) 47 = some (.isub, 1, []) := by decide +kernel
theorem i249_48 : lk (mi_ins m249) 48 = some (.iand, 1, []) := by decide +kernel
theorem i249_49 : lk (mi_ins m249) 49 = some (.ifCond .ne 7, 3, []) := by decide +kernel
theorem i249_52 : lk (mi_ins m249) 52 = some (.iconst 1, 1, []) := by decide +kernel
theorem i249_53 : lk (mi_ins m249) 53 = some (.goto 4, 3, []) := by decide +kernel
theorem i249_56 : lk (mi_ins m249) 56 = some (.iconst 0, 1, []) := by decide +kernel
theorem i249_57 : lk (mi_ins m249) 57 = some (.iadd, 1, [1]) := by decide +kernel
theorem i249_58 : lk (mi_ins m249) 58 = some (.istore_n 1, 1, []) := by decide +kernel
theorem i249_59 : lk (mi_ins m249) 59 = some (.iinc 2 1, 3, []) := by decide +kernel
theorem i249_62 : lk (mi_ins m249) 62 = some (.goto (-36), 3, []) := by decide +kernel
theorem i249_65 : lk (mi_ins m249) 65 = some (.aload_n 0, 1, [2]) := by decide +kernel
theorem i249_66 : lk (mi_ins m249) 66 = some (.iload_n 1, 1, []) := by decide +kernel
theorem i249_67 : lk (mi_ins m249) 67 = some (.invokevirtual 61, 3, []) := by decide +kernel
theorem i249_70 : lk (mi_ins m249) 70 = some (.ireturn, 1, []) := by decide +kernel
theorem i250_0 : lk (mi_ins m250) 0 = some (.aload_n 0, 1, []) := by decide +kernel
theorem i250_1 : lk (mi_ins m250) 1 = some (.iconst 0, 1, []) := by decide +kernel
theorem i250_2 : lk (mi_ins m250) 2 = some (.putfield 51, 3, []) := by decide +kernel
theorem i250_5 : lk (mi_ins m250) 5 = some (.aload_n 0, 1, []) := by decide +kernel
theorem i250_6 : lk (mi_ins m250) 6 = some (.iload_n 1, 1, []) := by decide +kernel
theorem i250_7 : lk (mi_ins m250) 7 = some (.invokevirtual 404, 3, []) := by decide +kernel
theorem i250_10 : lk (mi_ins m250) 10 = some (.ifCond .ne 9, 3, []) := by decide +kernel
theorem i250_13 : lk (mi_ins m250) 13 = some (.aload_n 0, 1, []) := by decide +kernel
theorem i250_14 : lk (mi_ins m250) 14 = some (.iconst 1, 1, []) := by decide +kernel
theorem i250_15 : lk (mi_ins m250) 15 = some (.invokevirtual 57, 3, []) := by decide +kernel
theorem i250_18 : lk (mi_ins m250) 18 = some (.ireturn, 1, []) := by decide +kernel
theorem i250_19 : lk (mi_ins m250) 19 = some (.aload_n 0, 1, []) := by decide +kernel
theorem i250_20 : lk (mi_ins m250) 20 = some (.invokevirtual 407, 3, []) := by decide +kernel
theorem i250_23 : lk (mi_ins m250) 23 = some (.aload_n 0, 1, []) := by decide +kernel
theorem i250_24 : lk (mi_ins m250) 24 = some (.iload_n 1, 1, []) := by decide +kernel
theorem i250_25 : lk (mi_ins m250) 25 = some (.invokevirtual 386, 3, []) := by decide +kernel
theorem i250_28 : lk (mi_ins m250) 28 = some (.istore_n 2, 1, []) := by decide +kernel
theorem i250_29 : lk (mi_ins m250) 29 = some (.aload_n 0, 1, []) := by decide +kernel
theorem i250_30 : lk (mi_ins m250) 30 = some (.iload_n 1, 1, []) := by decide +kernel
theorem i250_31 : lk (mi_ins m250) 31 = some (.invokevirtual 383, 3, []) := by decide +kernel
theorem i250_34 : lk (mi_ins m250) 34 = some (.istore_n 3, 1, []) := by decide +kernel
theorem i250_35 : lk (mi_ins m250) 35 = some (.aload_n 0, 1, []) := by decide +kernel
theorem i250_36 : lk (mi_ins m250) 36 = some (.iload_n 1, 1, []) := by decide +kernel
theorem i250_37 : lk (mi_ins m250) 37 = some (.invokevirtual 383, 3, []) := by decide +kernel
theorem i250_40 : lk (mi_ins m250) 40 = some (.istore 4, 2, []) := by decide +kernel
theorem i250_42 : lk (mi_ins m250) 42 = some (.iconst 0, 1, []) := by decide +kernel
theorem i250_43 : lk (mi_ins m250) 43 = some (.istore 5, 2, []) := by decide +kernel
theorem i250_45 : lk (mi_ins m250) 45 = some (.iload 5, 2, [1]) := by decide +kernel
theorem i250_47 : lk (mi_ins m250) 47 = some (.aload_n 0, 1, []) := by decide +kernel
theorem i250_48 : lk (mi_ins m250) 48 = some (.getfield 360, 3, []) := by decide +kernel
theorem i250_51 : lk (mi_ins m250) 51 = some (.getfield 209, 3, []) := by decide +kernel
theorem i250_54 : lk (mi_ins m250) 54 = some (.if_icmp .ge 57, 3, []) := by decide +kernel
theorem i250_57 : lk (mi_ins m250) 57 = some (.iload_n 2, 1, []) := by decide +kernel
theorem i250_58 : lk (mi_ins m250) 58 = some (.iload 5, 2, []) := by decide +kernel
theorem i250_60 : lk (mi_ins m250) 60 = some (.invokestatic 288, 3, []) := by decide +kernel
theorem i250_63 : lk (mi_ins m250) 63 = some (.ifCond .ne 6, 3, []) := by decide +kernel
theorem i250_66 : lk (mi_ins m250) 66 = some (.goto 39, 3, []) := by decide +kernel
theorem i250_69 : lk (mi_ins m250) 69 = some (.aload_n 0, 1, []) := by decide +kernel
theorem i250_70 : lk (mi_ins m250) 70 = some (.iload 5, 2, []) := by decide +kernel
theorem i250_72 : lk (mi_ins m250) 72 = some (.invokevirtual 383, 3, []) := by decide +kernel
theorem i250_75 : lk (mi_ins m250) 75 = some (.iload_n 3, 1, []) := by decide +kernel
theorem i250_76 : lk (mi_ins m250) 76 = some (.if_icmp .le 10, 3, []) := by decide +kernel
theorem i250_79 : lk (mi_ins m250) 79 = some (.aload_n 0, 1, []) := by decide +kernel
theorem i250_80 : lk (mi_ins m250) 80 = some (.iload 5, 2, []) := by decide +kernel
theorem i250_82 : lk (mi_ins m250) 82 = some (.invokevirtual 383, 3, []) := by decide +kernel
theorem i250_85 : lk (mi_ins m250) 85 = some (.istore_n 3, 1, []) := by decide +kernel
theorem i250_86 : lk (mi_ins m250) 86 = some (.aload_n 0, 1, [1]) := by decide +kernel
theorem i250_87 : lk (mi_ins m250) 87 = some (.iload 5, 2, []) := by decide +kernel
theorem i250_89 : lk (mi_ins m250) 89 = some (.invokevirtual 383, 3, []) := by decide +kernel
theorem i250_92 : lk (mi_ins m250) 92 = some (.iload 4, 2, []) := by decide +kernel
theorem i250_94 : lk (mi_ins m250) 94 = some (.if_icmp .ge 11, 3, []) := by decide +kernel
theorem i250_97 : lk (mi_ins m250) 97 = some (.aload_n 0, 1, []) := by decide +kernel
theorem i250_98 : lk (mi_ins m250) 98 = some (.iload 5, 2, []) := by decide +kernel
theorem i250_100 : lk (mi_ins m250) 100 = some (.invokevirtual 383, 3, []) := by decide +kernel
theorem i250_103 : lk (mi_ins m250) 103 = some (.istore 4, 2, []) := by decide +kernel
theorem i250_105 : lk (mi_ins m250) 105 = some (.iinc 5 1, 3, [1]) := by decide +kernel
theorem i250_108 : lk (mi_ins m250) 108 = some (.goto (-63), 3, []) := by decide +kernel
theorem i250_111 : lk (mi_ins m250) 111 = some (.aload_n 0, 1, [1, 2, 5]) := by decide +kernel
theorem i250_112 : lk (mi_ins m250) 112 = some (.iload_n 3, 1, []) := by decide +kernel
theorem i250_113 : lk (mi_ins m250) 113 = some (.iload 4, 2, []) := by decide +kernel
theorem i250_115 : lk (mi_ins m250) 115 = some (.isub, 1, []) := by decide +kernel
theorem i250_116 : lk (mi_ins m250) 116 = some (.invokevirtual 61, 3, []) := by decide +kernel
theorem i250_119 : lk (mi_ins m250) 119 = some (.ireturn, 1, []) := by decide +kernel
theorem i251_0 : lk (mi_ins m251) 0 = some (.aload_n 0, 1, []) := by decide +kernel
theorem i251_1 : lk (mi_ins m251) 1 = some (.iconst 0, 1, []) := by decide +kernel
theorem i251_2 : lk (mi_ins m251) 2 = some (.putfield 51, 3, []) := by decide +kernel
theorem i251_5 : lk (mi_ins m251) 5 = some (.aload_n 0, 1, []) := by decide +kernel
theorem i251_6 : lk (mi_ins m251) 6 = some (.aload_n 0, 1, []) := by decide +kernel
theorem i251_7 : lk (mi_ins m251) 7 = some (.iload_n 1, 1, []) := by decide +kernel
theorem i251_8 : lk (mi_ins m251) 8 = some (.invokevirtual 404, 3, []) := by decide +kernel
theorem i251_11 : lk (mi_ins m251) 11 = some (.iload_n 2, 1, []) := by decide +kernel
theorem i251_12 : lk (mi_ins m251) 12 = some (.invokevirtual 425, 3, []) := by decide +kernel
theorem i251_15 : lk (mi_ins m251) 15 = some (.istore_n 3, 1, []) := by decide +kernel
theorem i251_16 : lk (mi_ins m251) 16 = some (.iload_n 3, 1, []) := by decide +kernel
theorem i251_17 : lk (mi_ins m251) 17 = some (.ifCond .le 9, 3, []) := by decide +kernel
theorem i251_20 : lk (mi_ins m251) 20 = some (.aload_n 0, 1, []) := by decide +kernel
theorem i251_21 : lk (mi_ins m251) 21 = some (.iload_n 3, 1, []) := by decide +kernel
theorem i251_22 : lk (mi_ins m251) 22 = some (.invokevirtual 57, 3, []) := by decide +kernel
theorem i251_25 : lk (mi_ins m251) 25 = some (.ireturn, 1, []) := by decide +kernel
theorem i251_26 : lk (mi_ins m251) 26 = some (.aload_n 0, 1, []) := by decide +kernel
theorem i251_27 : lk (mi_ins m251) 27 = some (.invokevirtual 407, 3, []) := by decide +kernel
theorem i251_30 : lk (mi_ins m251) 30 = some (.aload_n 0, 1, []) := by decide +kernel
theorem i251_31 : lk (mi_ins m251) 31 = some (.iload_n 2, 1, []) := by decide +kernel
theorem i251_32 : lk (mi_ins m251) 32 = some (.invokevirtual 429, 3, []) := by decide +kernel
theorem i251_35 : lk (mi_ins m251) 35 = some (.aload_n 0, 1, []) := by decide +kernel
theorem i251_36 : lk (mi_ins m251) 36 = some (.sipush 1000, 3, []) := by decide +kernel
theorem i251_39 : lk (mi_ins m251) 39 = some (.aload_n 0, 1, []) := by decide +kernel
theorem i251_40 : lk (mi_ins m251) 40 = some (.iload_n 1, 1, []) := by decide +kernel
theorem i251_41 : lk (mi_ins m251) 41 = some (.invokevirtual 398, 3, []) := by decide +kernel
theorem i251_44 : lk (mi_ins m251) 44 = some (.iadd, 1, []) := by decide +kernel
theorem i251_45 : lk (mi_ins m251) 45 = some (.invokevirtual 61, 3, []) := by decide +kernel
theorem i251_48 : lk (mi_ins m251) 48 = some (.ireturn, 1, []) := by decide +kernel
theorem i252_0 : lk (mi_ins m252) 0 = some (.iload_n 1, 1, []) := by decide +kernel
theorem i252_1 : lk (mi_ins m252) 1 = some (.ifCond .ne 7, 3, []) := by decide +kernel
theorem i252_4 : lk (mi_ins m252) 4 = some (.iconst 1, 1, []) := by decide +kernel
theorem i252_5 : lk (mi_ins m252) 5 = some (.goto 18, 3, []) := by decide +kernel
theorem i252_8 : lk (mi_ins m252) 8 = some (.iload_n 2, 1, []) := by decide +kernel
theorem i252_9 : lk (mi_ins m252) 9 = some (.iconst 0, 1, []) := by decide +kernel
theorem i252_10 : lk (mi_ins m252) 10 = some (.bipush 20, 2, []) := by decide +kernel
theorem i252_12 : lk (mi_ins m252) 12 = some (.invokestatic 130, 3, []) := by decide +kernel
theorem i252_15 : lk (mi_ins m252) 15 = some (.ifCond .eq 7, 3, []) := by decide +kernel
theorem i252_18 : lk (mi_ins m252) 18 = some (.iconst 0, 1, []) := by decide +kernel
theorem i252_19 : lk (mi_ins m252) 19 = some (.goto 4, 3, []) := by decide +kernel
theorem i252_22 : lk (mi_ins m252) 22 = some (.iconst 2, 1, []) := by decide +kernel
theorem i252_23 : lk (mi_ins m252) 23 = some (.ireturn, 1, [0, 1, 2]) := by decide +kernel
theorem i253_0 : lk (mi_ins m253) 0 = some (.iconst 0, 1, []) := by decide +kernel
theorem i253_1 : lk (mi_ins m253) 1 = some (.istore_n 2, 1, []) := by decide +kernel
theorem i253_2 : lk (mi_ins m253) 2 = some (.iload_n 2, 1, []) := by decide +kernel
theorem i253_3 : lk (mi_ins m253) 3 = some (.iload_n 1, 1, []) := by decide +kernel
theorem i253_4 : lk (mi_ins m253) 4 = some (.if_icmp .ge 13, 3, []) := by decide +kernel
theorem i253_7 : lk (mi_ins m253) 7 = some (.aload_n 0, 1, []) := by decide +kernel
theorem i253_8 : lk (mi_ins m253) 8 = some (.invokevirtual 401, 3, []) := by decide +kernel
theorem i253_11 : lk (mi_ins m253) 11 = some (.iinc 2 1, 3, []) := by decide +kernel
theorem i253_14 : lk (mi_ins m253) 14 = some (.goto (-12), 3, []) := by decide +kernel
theorem i253_17 : lk (mi_ins m253) 17 = some (.return_, 1, [0, 1, 2]) := by decide +kernel
theorem i254_0 : lk (mi_ins m254) 0 = some (.iconst 0, 1, []) := by decide +kernel
theorem i254_1 : lk (mi_ins m254) 1 = some (.istore_n 1, 1, []) := by decide +kernel
theorem i254_2 : lk (mi_ins m254) 2 = some (.iload_n 1, 1, []) := by decide +kernel
theorem i254_3 : lk (mi_ins m254) 3 = some (.aload_n 0, 1, []) := by decide +kernel
theorem i254_4 : lk (mi_ins m254) 4 = some (.getfield 360, 3, []) := by decide +kernel
theorem i254_7 : lk (mi_ins m254) 7 = some (.getfield 209, 3, []) := by decide +kernel
theorem i254_10 : lk (mi_ins m254) 10 = some (.if_icmp .ge 60, 3, []) := by decide +kernel
theorem i254_13 : lk (mi_ins m254) 13 = some (.aload_n 0, 1, []) := by decide +kernel
theorem i254_14 : lk (mi_ins m254) 14 = some (.getfield 21, 3, []) := by decide +kernel
theorem i254_17 : lk (mi_ins m254) 17 = some (.iload_n 1, 1, []) := by decide +kernel
theorem i254_18 : lk (mi_ins m254) 18 = some (.iconst 2, 1, []) := by decide +kernel
theorem i254_19 : lk (mi_ins m254) 19 = some (.invokestatic 371, 3, []) := by decide +kernel
theorem i254_22 : lk (mi_ins m254) 22 = some (.aload_n 0, 1, []) := by decide +kernel
theorem i254_23 : lk (mi_ins m254) 23 = some (.getfield 21, 3, []) := by decide +kernel
theorem i254_26 : lk (mi_ins m254) 26 = some (.iload_n 1, 1, []) := by decide +kernel
theorem i254_27 : lk (mi_ins m254) 27 = some (.iconst 1, 1, []) := by decide +kernel
theorem i254_28 : lk (mi_ins m254) 28 = some (.invokestatic 371, 3, []) := by decide +kernel
theorem i254_31 : lk (mi_ins m254) 31 = some (.iaload, 1, []) := by decide +kernel
theorem i254_32 : lk (mi_ins m254) 32 = some (.iastore, 1, []) := by decide +kernel
theorem i254_33 : lk (mi_ins m254) 33 = some (.aload_n 0, 1, []) := by decide +kernel
theorem i254_34 : lk (mi_ins m254) 34 = some (.getfield 21, 3, []) := by decide +kernel
theorem i254_37 : lk (mi_ins m254) 37 = some (.iload_n 1, 1, []) := by decide +kernel
theorem i254_38 : lk (mi_ins m254) 38 = some (.iconst 1, 1, []) := by decide +kernel
theorem i254_39 : lk (mi_ins m254) 39 = some (.invokestatic 371, 3, []) := by decide +kernel
theorem i254_42 : lk (mi_ins m254) 42 = some (.aload_n 0, 1, []) := by decide +kernel
theorem i254_43 : lk (mi_ins m254) 43 = some (.getfield 21, 3, []) := by decide +kernel
theorem i254_46 : lk (mi_ins m254) 46 = some (.iload_n 1, 1, []) := by decide +kernel
theorem i254_47 : lk (mi_ins m254) 47 = some (.iconst 0, 1, []) := by decide +kernel
theorem i254_48 : lk (mi_ins m254) 48 = some (.invokestatic 371, 3, []) := by decide +kernel
theorem i254_51 : lk (mi_ins m254) 51 = some (.iaload, 1, []) := by decide +kernel
theorem i254_52 : lk (mi_ins m254) 52 = some (.iastore, 1, []) := by decide +kernel
theorem i254_53 : lk (mi_ins m254) 53 = some (.aload_n 0, 1, []) := by decide +kernel
theorem i254_54 : lk (mi_ins m254) 54 = some (.getfield 21, 3, []) := by decide +kernel
theorem i254_57 : lk (mi_ins m254) 57 = some (.iload_n 1, 1, []) := by decide +kernel
theorem i254_58 : lk (mi_ins m254) 58 = some (.iconst 0, 1, []) := by decide +kernel
theorem i254_59 : lk (mi_ins m254) 59 = some (.invokestatic 371, 3, []) := by decide +kernel
theorem i254_62 : lk (mi_ins m254) 62 = some (.iconst 0, 1, []) := by decide +kernel
theorem i254_63 : lk (mi_ins m254) 63 = some (.iastore, 1, []) := by decide +kernel
theorem i254_64 : lk (mi_ins m254) 64 = some (.iinc 1 1, 3, []) := by decide +kernel
theorem i254_67 : lk (mi_ins m254) 67 = some (.goto (-65), 3, []) := by decide +kernel
theorem i254_70 : lk (mi_ins m254) 70 = some (.return_, 1, [0, 1]) := by decide +kernel
theorem i255_0 : lk (mi_ins m255) 0 = some (.aload_n 0, 1, []) := by decide +kernel
theorem i255_1 : lk (mi_ins m255) 1 = some (.iconst 0, 1, []) := by decide +kernel
theorem i255_2 : lk (mi_ins m255) 2 = some (.putfield 51, 3, []) := by decide +kernel
theorem i255_5 : lk (mi_ins m255) 5 = some (.aload_n 0, 1, []) := by decide +kernel
theorem i255_6 : lk (mi_ins m255) 6 = some (.aload_n 0, 1, []) := by decide +kernel
theorem i255_7 : lk (mi_ins m255) 7 = some (.getfield 360, 3, []) := by decide +kernel
theorem i255_10 : lk (mi_ins m255) 10 = some (.ifnull 7, 3, []) := by decide +kernel
theorem i255_13 : lk (mi_ins m255) 13 = some (.iconst 1, 1, []) := by decide +kernel
theorem i255_14 : lk (mi_ins m255) 14 = some (.goto 4, 3, []) := by decide +kernel
theorem i255_17 : lk (mi_ins m255) 17 = some (.iconst 0, 1, []) := by decide +kernel
theorem i255_18 : lk (mi_ins m255) 18 = some (.iload_n 1, 1, [2]) := by decide +kernel
theorem i255_19 : lk (mi_ins m255) 19 = some (.invokevirtual 425, 3, []) := by decide +kernel
theorem i255_22 : lk (mi_ins m255) 22 = some (.istore_n 2, 1, []) := by decide +kernel
theorem i255_23 : lk (mi_ins m255) 23 = some (.iload_n 2, 1, []) := by decide +kernel
theorem i255_24 : lk (mi_ins m255) 24 = some (.ifCond .le 9, 3, []) := by decide +kernel
theorem i255_27 : lk (mi_ins m255) 27 = some (.aload_n 0, 1, []) := by decide +kernel
theorem i255_28 : lk (mi_ins m255) 28 = some (.iload_n 2, 1, []) := by decide +kernel
theorem i255_29 : lk (mi_ins m255) 29 = some (.invokevirtual 57, 3, []) := by decide +kernel
theorem i255_32 : lk (mi_ins m255) 32 = some (.ireturn, 1, []) := by decide +kernel
theorem i255_33 : lk (mi_ins m255) 33 = some (.aload_n 0, 1, []) := by decide +kernel
theorem i255_34 : lk (mi_ins m255) 34 = some (.invokevirtual 407, 3, []) := by decide +kernel
theorem i255_37 : lk (mi_ins m255) 37 = some (.aload_n 0, 1, []) := by decide +kernel
theorem i255_38 : lk (mi_ins m255) 38 = some (.iload_n 1, 1, []) := by decide +kernel
theorem i255_39 : lk (mi_ins m255) 39 = some (.invokevirtual 429, 3, []) := by decide +kernel
theorem i255_42 : lk (mi_ins m255) 42 = some (.aload_n 0, 1, []) := by decide +kernel
theorem i255_43 : lk (mi_ins m255) 43 = some (.aload_n 0, 1, []) := by decide +kernel
theorem i255_44 : lk (mi_ins m255) 44 = some (.invokevirtual 419, 3, []) := by decide +kernel
theorem i255_47 : lk (mi_ins m255) 47 = some (.invokevirtual 61, 3, []) := by decide +kernel
theorem i255_50 : lk (mi_ins m255) 50 = some (.ireturn, 1, []) := by decide +kernel
theorem i256_0 : lk (mi_ins m256) 0 = some (.aload_n 0, 1, []) := by decide +kernel
theorem i256_1 : lk (mi_ins m256) 1 = some (.iconst 0, 1, []) := by decide +kernel
theorem i256_2 : lk (mi_ins m256) 2 = some (.putfield 51, 3, []) := by decide +kernel
theorem i256_5 : lk (mi_ins m256) 5 = some (.aload_n 0, 1, []) := by decide +kernel
theorem i256_6 : lk (mi_ins m256) 6 = some (.iload_n 1, 1, []) := by decide +kernel
theorem i256_7 : lk (mi_ins m256) 7 = some (.invokevirtual 404, 3, []) := by decide +kernel
theorem i256_10 : lk (mi_ins m256) 10 = some (.ifCond .ne 9, 3, []) := by decide +kernel
theorem i256_13 : lk (mi_ins m256) 13 = some (.aload_n 0, 1, []) := by decide +kernel
theorem i256_14 : lk (mi_ins m256) 14 = some (.iconst 1, 1, []) := by decide +kernel
theorem i256_15 : lk (mi_ins m256) 15 = some (.invokevirtual 57, 3, []) := by decide +kernel
theorem i256_18 : lk (mi_ins m256) 18 = some (.ireturn, 1, []) := by decide +kernel
theorem i256_19 : lk (mi_ins m256) 19 = some (.aload_n 0, 1, []) := by decide +kernel
theorem i256_20 : lk (mi_ins m256) 20 = some (.invokevirtual 407, 3, []) := by decide +kernel
theorem i256_23 : lk (mi_ins m256) 23 = some (.iconst 0, 1, []) := by decide +kernel
theorem i256_24 : lk (mi_ins m256) 24 = some (.istore_n 2, 1, []) := by decide +kernel
theorem i256_25 : lk (mi_ins m256) 25 = some (.iload_n 2, 1, []) := by decide +kernel
theorem i256_26 : lk (mi_ins m256) 26 = some (.bipush 20, 2, []) := by decide +kernel
theorem i256_28 : lk (mi_ins m256) 28 = some (.if_icmp .gt 27, 3, []) := by decide +kernel
theorem i256_31 : lk (mi_ins m256) 31 = some (.aload_n 0, 1, []) := by decide +kernel
theorem i256_32 : lk (mi_ins m256) 32 = some (.iload_n 1, 1, []) := by decide +kernel
theorem i256_33 : lk (mi_ins m256) 33 = some (.invokevirtual 398, 3, []) := by decide +kernel
theorem i256_36 : lk (mi_ins m256) 36 = some (.ifCond .ge 9, 3, []) := by decide +kernel
theorem i256_39 : lk (mi_ins m256) 39 = some (.aload_n 0, 1, []) := by decide +kernel
theorem i256_40 : lk (mi_ins m256) 40 = some (.iload_n 2, 1, []) := by decide +kernel
theorem i256_41 : lk (mi_ins m256) 41 = some (.invokevirtual 61, 3, []) := by decide +kernel
theorem i256_44 : lk (mi_ins m256) 44 = some (.ireturn, 1, []) := by decide +kernel
theorem i256_45 : lk (mi_ins m256) 45 = some (.aload_n 0, 1, []) := by decide +kernel
theorem i256_46 : lk (mi_ins m256) 46 = some (.invokevirtual 401, 3, []) := by decide +kernel
theorem i256_49 : lk (mi_ins m256) 49 = some (.iinc 2 1, 3, []) := by decide +kernel
theorem i256_52 : lk (mi_ins m256) 52 = some (.goto (-27), 3, []) := by decide +kernel
theorem i256_55 : lk (mi_ins m256) 55 = some (.aload_n 0, 1, [1, 2]) := by decide +kernel
theorem i256_56 : lk (mi_ins m256) 56 = some (.bipush (-2), 2, []) := by decide +kernel
theorem i256_58 : lk (mi_ins m256) 58 = some (.invokevirtual 61, 3, []) := by decide +kernel
theorem i256_61 : lk (mi_ins m256) 61 = some (.ireturn, 1, []) := by decide +kernel
theorem i257_0 : lk (mi_ins m257) 0 = some (.aload_n 0, 1, []) := by decide +kernel
theorem i257_1 : lk (mi_ins m257) 1 = some (.iconst 0, 1, []) := by decide +kernel
theorem i257_2 : lk (mi_ins m257) 2 = some (.putfield 51, 3, []) := by decide +kernel
theorem i257_5 : lk (mi_ins m257) 5 = some (.aload_n 0, 1, []) := by decide +kernel
theorem i257_6 : lk (mi_ins m257) 6 = some (.getfield 360, 3, []) := by decide +kernel
theorem i257_9 : lk (mi_ins m257) 9 = some (.ifnonnull 9, 3, []) := by decide +kernel
theorem i257_12 : lk (mi_ins m257) 12 = some (.aload_n 0, 1, []) := by decide +kernel
theorem i257_13 : lk (mi_ins m257) 13 = some (.iconst 1, 1, []) := by decide +kernel
theorem i257_14 : lk (mi_ins m257) 14 = some (.invokevirtual 57, 3, []) := by decide +kernel
theorem i257_17 : lk (mi_ins m257) 17 = some (.ireturn, 1, []) := by decide +kernel
theorem i257_18 : lk (mi_ins m257) 18 = some (.iconst 0, 1, []) := by decide +kernel
theorem i257_19 : lk (mi_ins m257) 19 = some (.istore_n 1, 1, []) := by decide +kernel
theorem i257_20 : lk (mi_ins m257) 20 = some (.iload_n 1, 1, []) := by decide +kernel
theorem i257_21 : lk (mi_ins m257) 21 = some (.aload_n 0, 1, []) := by decide +kernel
theorem i257_22 : lk (mi_ins m257) 22 = some (.getfield 360, 3, []) := by decide +kernel
theorem i257_25 : lk (mi_ins m257) 25 = some (.getfield 312, 3, []) := by decide +kernel
theorem i257_28 : lk (mi_ins m257) 28 = some (.if_icmp .ge 40, 3, []) := by decide +kernel
theorem i257_31 : lk (mi_ins m257) 31 = some (.aload_n 0, 1, []) := by decide +kernel
theorem i257_32 : lk (mi_ins m257) 32 = some (.invokevirtual 407, 3, []) := by decide +kernel
theorem i257_35 : lk (mi_ins m257) 35 = some (.aload_n 0, 1, []) := by decide +kernel
theorem i257_36 : lk (mi_ins m257) 36 = some (.aload_n 0, 1, []) := by decide +kernel
theorem i257_37 : lk (mi_ins m257) 37 = some (.getfield 360, 3, []) := by decide +kernel
theorem i257_40 : lk (mi_ins m257) 40 = some (.getfield 322, 3, []) := by decide +kernel
theorem i257_43 : lk (mi_ins m257) 43 = some (.iload_n 1, 1, []) := by decide +kernel
theorem i257_44 : lk (mi_ins m257) 44 = some (.iaload, 1, []) := by decide +kernel
theorem i257_45 : lk (mi_ins m257) 45 = some (.invokevirtual 429, 3, []) := by decide +kernel
theorem i257_48 : lk (mi_ins m257) 48 = some (.aload_n 0, 1, []) := by decide +kernel
theorem i257_49 : lk (mi_ins m257) 49 = some (.iload_n 1, 1, []) := by decide +kernel
theorem i257_50 : lk (mi_ins m257) 50 = some (.invokevirtual 432, 3, []) := by decide +kernel
theorem i257_53 : lk (mi_ins m257) 53 = some (.ifCond .ne 9, 3, []) := by decide +kernel
theorem i257_56 : lk (mi_ins m257) 56 = some (.aload_n 0, 1, []) := by decide +kernel
theorem i257_57 : lk (mi_ins m257) 57 = some (.iload_n 1, 1, []) := by decide +kernel
theorem i257_58 : lk (mi_ins m257) 58 = some (.invokevirtual 61, 3, []) := by decide +kernel
theorem i257_61 : lk (mi_ins m257) 61 = some (.ireturn, 1, []) := by decide +kernel
theorem i257_62 : lk (mi_ins m257) 62 = some (.iinc 1 1, 3, []) := by decide +kernel
theorem i257_65 : lk (mi_ins m257) 65 = some (.goto (-45), 3, []) := by decide +kernel
theorem i257_68 : lk (mi_ins m257) 68 = some (.aload_n 0, 1, [1]) := by decide +kernel
theorem i257_69 : lk (mi_ins m257) 69 = some (.bipush (-2), 2, []) := by decide +kernel
theorem i257_71 : lk (mi_ins m257) 71 = some (.invokevirtual 61, 3, []) := by decide +kernel
theorem i257_74 : lk (mi_ins m257) 74 = some (.ireturn, 1, []) := by decide +kernel
theorem i258_0 : lk (mi_ins m258) 0 = some (.aload_n 0, 1, []) := by decide +kernel
theorem i258_1 : lk (mi_ins m258) 1 = some (.aload_n 0, 1, []) := by decide +kernel
theorem i258_2 : lk (mi_ins m258) 2 = some (.getfield 360, 3, []) := by decide +kernel
theorem i258_5 : lk (mi_ins m258) 5 = some (.getfield 319, 3, []) := by decide +kernel
theorem i258_8 : lk (mi_ins m258) 8 = some (.iload_n 1, 1, []) := by decide +kernel
theorem i258_9 : lk (mi_ins m258) 9 = some (.iaload, 1, []) := by decide +kernel
theorem i258_10 : lk (mi_ins m258) 10 = some (.invokevirtual 398, 3, []) := by decide +kernel
theorem i258_13 : lk (mi_ins m258) 13 = some (.aload_n 0, 1, []) := by decide +kernel
theorem i258_14 : lk (mi_ins m258) 14 = some (.getfield 360, 3, []) := by decide +kernel
theorem i258_17 : lk (mi_ins m258) 17 = some (.getfield 325, 3, []) := by decide +kernel
theorem i258_20 : lk (mi_ins m258) 20 = some (.iload_n 1, 1, []) := by decide +kernel
theorem i258_21 : lk (mi_ins m258) 21 = some (.iaload, 1, []) := by decide +kernel
theorem i258_22 : lk (mi_ins m258) 22 = some (.if_icmp .lt 7, 3, []) := by decide +kernel
theorem i258_25 : lk (mi_ins m258) 25 = some (.iconst 1, 1, []) := by decide +kernel
theorem i258_26 : lk (mi_ins m258) 26 = some (.goto 4, 3, []) := by decide +kernel
theorem i258_29 : lk (mi_ins m258) 29 = some (.iconst 0, 1, []) := by decide +kernel
theorem i258_30 : lk (mi_ins m258) 30 = some (.ireturn, 1, [0, 1]) := by decide +kernel
theorem i259_0 : lk (mi_ins m259) 0 = some (.aload_n 0, 1, []) := by decide +kernel
theorem i259_1 : lk (mi_ins m259) 1 = some (.iconst 0, 1, []) := by decide +kernel
theorem i259_2 : lk (mi_ins m259) 2 = some (.putfield 51, 3, []) := by decide +kernel
theorem i259_5 : lk (mi_ins m259) 5 = some (.aload_n 0, 1, []) := by decide +kernel
theorem i259_6 : lk (mi_ins m259) 6 = some (.iload_n 1, 1, []) := by decide +kernel
theorem i259_7 : lk (mi_ins m259) 7 = some (.invokevirtual 404, 3, []) := by decide +kernel
theorem i259_10 : lk (mi_ins m259) 10 = some (.ifCond .ne 9, 3, []) := by decide +kernel
theorem i259_13 : lk (mi_ins m259) 13 = some (.aload_n 0, 1, []) := by decide +kernel
theorem i259_14 : lk (mi_ins m259) 14 = some (.iconst 1, 1, []) := by decide +kernel
theorem i259_15 : lk (mi_ins m259) 15 = some (.invokevirtual 57, 3, []) := by decide +kernel
theorem i259_18 : lk (mi_ins m259) 18 = some (.ireturn, 1, []) := by decide +kernel
theorem i259_19 : lk (mi_ins m259) 19 = some (.iload_n 2, 1, []) := by decide +kernel
theorem i259_20 : lk (mi_ins m259) 20 = some (.iconst 0, 1, []) := by decide +kernel
theorem i259_21 : lk (mi_ins m259) 21 = some (.bipush 99, 2, []) := by decide +kernel
theorem i259_23 : lk (mi_ins m259) 23 = some (.invokestatic 130, 3, []) := by decide +kernel
theorem i259_26 : lk (mi_ins m259) 26 = some (.ifCond .eq 12, 3, []) := by decide +kernel
theorem i259_29 : lk (mi_ins m259) 29 = some (.iload_n 3, 1, []) := by decide +kernel
theorem i259_30 : lk (mi_ins m259) 30 = some (.iconst 0, 1, []) := by decide +kernel
theorem i259_31 : lk (mi_ins m259) 31 = some (.iconst 4, 1, []) := by decide +kernel
theorem i259_32 : lk (mi_ins m259) 32 = some (.invokestatic 130, 3, []) := by decide +kernel
theorem i259_35 : lk (mi_ins m259) 35 = some (.ifCond .ne 9, 3, []) := by decide +kernel
theorem i259_38 : lk (mi_ins m259) 38 = some (.aload_n 0, 1, [1, 2, 3, 4, 5]) := by decide +kernel
theorem i259_39 : lk (mi_ins m259) 39 = some (.iconst 2, 1, []) := by decide +kernel
theorem i259_40 : lk (mi_ins m259) 40 = some (.invokevirtual 57, 3, []) := by decide +kernel
theorem i259_43 : lk (mi_ins m259) 43 = some (.ireturn, 1, []) := by decide +kernel
theorem i259_44 : lk (mi_ins m259) 44 = some (.aload_n 0, 1, []) := by decide +kernel
theorem i259_45 : lk (mi_ins m259) 45 = some (.invokevirtual 407, 3, []) := by decide +kernel
theorem i259_48 : lk (mi_ins m259) 48 = some (.aload_n 0, 1, []) := by decide +kernel
theorem i259_49 : lk (mi_ins m259) 49 = some (.aload_n 0, 1, []) := by decide +kernel
theorem i259_50 : lk (mi_ins m259) 50 = some (.iload_n 1, 1, []) := by decide +kernel
theorem i259_51 : lk (mi_ins m259) 51 = some (.invokevirtual 386, 3, []) := by decide +kernel
theorem i259_54 : lk (mi_ins m259) 54 = some (.invokevirtual 389, 3, []) := by decide +kernel
theorem i259_57 : lk (mi_ins m259) 57 = some (.iload_n 2, 1, []) := by decide +kernel
theorem i259_58 : lk (mi_ins m259) 58 = some (.isub, 1, []) := by decide +kernel
theorem i259_59 : lk (mi_ins m259) 59 = some (.istore 4, 2, []) := by decide +kernel
theorem i259_61 : lk (mi_ins m259) 61 = some (.iconst 0, 1, []) := by decide +kernel
theorem i259_62 : lk (mi_ins m259) 62 = some (.istore 5, 2, []) := by decide +kernel
theorem i259_64 : lk (mi_ins m259) 64 = some (.iload 5, 2, [1, 2]) := by decide +kernel
theorem i259_66 : lk (mi_ins m259) 66 = some (.sipush 300, 3, []) := by decide +kernel
theorem i259_69 : lk (mi_ins m259) 69 = some (.if_icmp .gt 29, 3, []) := by decide +kernel
theorem i259_72 : lk (mi_ins m259) 72 = some (.iload 4, 2, []) := by decide +kernel
theorem i259_74 : lk (mi_ins m259) 74 = some (.iload 5, 2, []) := by decide +kernel
theorem i259_76 : lk (mi_ins m259) 76 = some (.iload_n 3, 1, []) := by decide +kernel
theorem i259_77 : lk (mi_ins m259) 77 = some (.invokestatic 374, 3, []) := by decide +kernel
theorem i259_80 : lk (mi_ins m259) 80 = some (.imul, 1, []) := by decide +kernel
theorem i259_81 : lk (mi_ins m259) 81 = some (.iadd, 1, []) := by decide +kernel
theorem i259_82 : lk (mi_ins m259) 82 = some (.ifCond .lt 10, 3, []) := by decide +kernel
theorem i259_85 : lk (mi_ins m259) 85 = some (.aload_n 0, 1, []) := by decide +kernel
theorem i259_86 : lk (mi_ins m259) 86 = some (.iload 5, 2, []) := by decide +kernel
theorem i259_88 : lk (mi_ins m259) 88 = some (.invokevirtual 61, 3, []) := by decide +kernel
theorem i259_91 : lk (mi_ins m259) 91 = some (.ireturn, 1, []) := by decide +kernel
theorem i259_92 : lk (mi_ins m259) 92 = some (.iinc 5 1, 3, []) := by decide +kernel
theorem i259_95 : lk (mi_ins m259) 95 = some (.goto (-31), 3, []) := by decide +kernel
theorem i259_98 : lk (mi_ins m259) 98 = some (.aload_n 0, 1, [1, 2, 3, 4, 5]) := by decide +kernel
theorem i259_99 : lk (mi_ins m259) 99 = some (.bipush (-2), 2, []) := by decide +kernel
theorem i259_101 : lk (mi_ins m259) 101 = some (.invokevirtual 61, 3, []) := by decide +kernel
theorem i259_104 : lk (mi_ins m259) 104 = some (.ireturn, 1, []) := by decide +kernel
theorem i260_0 : lk (mi_ins m260) 0 = some (.aload_n 0, 1, []) := by decide +kernel
theorem i260_1 : lk (mi_ins m260) 1 = some (.iconst 0, 1, []) := by decide +kernel
theorem i260_2 : lk (mi_ins m260) 2 = some (.putfield 51, 3, []) := by decide +kernel
theorem i260_5 : lk (mi_ins m260) 5 = some (.aload_n 0, 1, []) := by decide +kernel
theorem i260_6 : lk (mi_ins m260) 6 = some (.getfield 360, 3, []) := by decide +kernel
theorem i260_9 : lk (mi_ins m260) 9 = some (.ifnonnull 9, 3, []) := by decide +kernel
theorem i260_12 : lk (mi_ins m260) 12 = some (.aload_n 0, 1, []) := by decide +kernel
theorem i260_13 : lk (mi_ins m260) 13 = some (.iconst 1, 1, []) := by decide +kernel
theorem i260_14 : lk (mi_ins m260) 14 = some (.invokevirtual 57, 3, []) := by decide +kernel
theorem i260_17 : lk (mi_ins m260) 17 = some (.ireturn, 1, []) := by decide +kernel
theorem i260_18 : lk (mi_ins m260) 18 = some (.iload_n 1, 1, []) := by decide +kernel
theorem i260_19 : lk (mi_ins m260) 19 = some (.iconst 0, 1, []) := by decide +kernel
theorem i260_20 : lk (mi_ins m260) 20 = some (.bipush 99, 2, []) := by decide +kernel
theorem i260_22 : lk (mi_ins m260) 22 = some (.invokestatic 130, 3, []) := by decide +kernel
theorem i260_25 : lk (mi_ins m260) 25 = some (.ifCond .ne 9, 3, []) := by decide +kernel
theorem i260_28 : lk (mi_ins m260) 28 = some (.aload_n 0, 1, []) := by decide +kernel
theorem i260_29 : lk (mi_ins m260) 29 = some (.iconst 2, 1, []) := by decide +kernel
theorem i260_30 : lk (mi_ins m260) 30 = some (.invokevirtual 57, 3, []) := by decide +kernel
theorem i260_33 : lk (mi_ins m260) 33 = some (.ireturn, 1, []) := by decide +kernel
theorem i260_34 : lk (mi_ins m260) 34 = some (.aload_n 0, 1, []) := by decide +kernel
theorem i260_35 : lk (mi_ins m260) 35 = some (.invokevirtual 407, 3, []) := by decide +kernel
theorem i260_38 : lk (mi_ins m260) 38 = some (.aload_n 0, 1, []) := by decide +kernel
theorem i260_39 : lk (mi_ins m260) 39 = some (.aload_n 0, 1, []) := by decide +kernel
theorem i260_40 : lk (mi_ins m260) 40 = some (.iload_n 1, 1, []) := by decide +kernel
theorem i260_41 : lk (mi_ins m260) 41 = some (.invokevirtual 437, 3, []) := by decide +kernel
theorem i260_44 : lk (mi_ins m260) 44 = some (.invokevirtual 61, 3, []) := by decide +kernel
theorem i260_47 : lk (mi_ins m260) 47 = some (.ireturn, 1, []) := by decide +kernel
theorem i261_0 : lk (mi_ins m261) 0 = some (.iconst 0, 1, []) := by decide +kernel
theorem i261_1 : lk (mi_ins m261) 1 = some (.istore_n 2, 1, []) := by decide +kernel
theorem i261_2 : lk (mi_ins m261) 2 = some (.ldc_w 435, 3, []) := by decide +kernel
theorem i261_5 : lk (mi_ins m261) 5 = some (.istore_n 3, 1, []) := by decide +kernel
theorem i261_6 : lk (mi_ins m261) 6 = some (.iconst 0, 1, []) := by decide +kernel
theorem i261_7 : lk (mi_ins m261) 7 = some (.istore 4, 2, []) := by decide +kernel
theorem i261_9 : lk (mi_ins m261) 9 = some (.iload 4, 2, [5, 6, 7, 8]) := by decide +kernel
theorem i261_11 : lk (mi_ins m261) 11 = some (.aload_n 0, 1, []) := by decide +kernel
theorem i261_12 : lk (mi_ins m261) 12 = some (.getfield 360, 3, []) := by decide +kernel
theorem i261_15 : lk (mi_ins m261) 15 = some (.getfield 209, 3, []) := by decide +kernel
theorem i261_18 : lk (mi_ins m261) 18 = some (.if_icmp .ge 106, 3, []) := by decide +kernel
theorem i261_21 : lk (mi_ins m261) 21 = some (.ldc_w 436, 3, []) := by decide +kernel
theorem i261_24 : lk (mi_ins m261) 24 = some (.istore 5, 2, []) := by decide +kernel
theorem i261_26 : lk (mi_ins m261) 26 = some (.aload_n 0, 1, []) := by decide +kernel
theorem i261_27 : lk (mi_ins m261) 27 = some (.iload 4, 2, []) := by decide +kernel
theorem i261_29 : lk (mi_ins m261) 29 = some (.invokevirtual 386, 3, []) := by decide +kernel
theorem i261_32 : lk (mi_ins m261) 32 = some (.istore 6, 2, []) := by decide +kernel
theorem i261_34 : lk (mi_ins m261) 34 = some (.iconst 0, 1, []) := by decide +kernel
theorem i261_35 : lk (mi_ins m261) 35 = some (.istore 7, 2, []) := by decide +kernel
theorem i261_37 : lk (mi_ins m261) 37 = some (.iload 7, 2, [8]) := by decide +kernel
theorem i261_39 : lk (mi_ins m261) 39 = some (.aload_n 0, 1, []) := by decide +kernel
theorem i261_40 : lk (mi_ins m261) 40 = some (.getfield 360, 3, []) := by decide +kernel
theorem i261_43 : lk (mi_ins m261) 43 = some (.getfield 209, 3, []) := by decide +kernel
theorem i261_46 : lk (mi_ins m261) 46 = some (.if_icmp .ge 57, 3, []) := by decide +kernel
theorem i261_49 : lk (mi_ins m261) 49 = some (.iload 6, 2, []) := by decide +kernel
theorem i261_51 : lk (mi_ins m261) 51 = some (.iload 7, 2, []) := by decide +kernel
theorem i261_53 : lk (mi_ins m261) 53 = some (.invokestatic 288, 3, []) := by decide +kernel
theorem i261_56 : lk (mi_ins m261) 56 = some (.ifCond .eq 22, 3, []) := by decide +kernel
theorem i261_59 : lk (mi_ins m261) 59 = some (.aload_n 0, 1, []) := by decide +kernel
theorem i261_60 : lk (mi_ins m261) 60 = some (.iload 6, 2, []) := by decide +kernel
theorem i261_62 : lk (mi_ins m261) 62 = some (.invokevirtual 389, 3, []) := by decide +kernel
theorem i261_65 : lk (mi_ins m261) 65 = some (.iload_n 1, 1, []) := by decide +kernel
theorem i261_66 : lk (mi_ins m261) 66 = some (.isub, 1, []) := by decide +kernel
theorem i261_67 : lk (mi_ins m261) 67 = some (.iload 6, 2, []) := by decide +kernel
theorem i261_69 : lk (mi_ins m261) 69 = some (.invokestatic 392, 3, []) := by decide +kernel
theorem i261_72 : lk (mi_ins m261) 72 = some (.invokestatic 395, 3, []) := by decide +kernel
theorem i261_75 : lk (mi_ins m261) 75 = some (.goto 9, 3, []) := by decide +kernel
theorem i261_78 : lk (mi_ins m261) 78 = some (.aload_n 0, 1, []) := by decide +kernel
theorem i261_79 : lk (mi_ins m261) 79 = some (.iload 7, 2, []) := by decide +kernel
theorem i261_81 : lk (mi_ins m261) 81 = some (.invokevirtual 398, 3, []) := by decide +kernel
theorem i261_84 : lk (mi_ins m261) 84 = some (.istore 8, 2, [8]) := by decide +kernel
theorem i261_86 : lk (mi_ins m261) 86 = some (.iload 8, 2, []) := by decide +kernel
theorem i261_88 : lk (mi_ins m261) 88 = some (.iload 5, 2, []) := by decide +kernel
theorem i261_90 : lk (mi_ins m261) 90 = some (.if_icmp .ge 7, 3, []) := by decide +kernel
theorem i261_93 : lk (mi_ins m261) 93 = some (.iload 8, 2, []) := by decide +kernel
theorem i261_95 : lk (mi_ins m261) 95 = some (.istore 5, 2, []) := by decide +kernel
theorem i261_97 : lk (mi_ins m261) 97 = some (.iinc 7 1, 3, [8]) := by decide +kernel
theorem i261_100 : lk (mi_ins m261) 100 = some (.goto (-63), 3, []) := by decide +kernel
theorem i261_103 : lk (mi_ins m261) 103 = some (.iload 5, 2, [6, 7, 8]) := by decide +kernel
theorem i261_105 : lk (mi_ins m261) 105 = some (.iload_n 3, 1, []) := by decide +kernel
theorem i261_106 : lk (mi_ins m261) 106 = some (.if_icmp .gt 6, 3, []) := by decide +kernel
theorem i261_109 : lk (mi_ins m261) 109 = some (.goto 9, 3, []) := by decide +kernel
theorem i261_112 : lk (mi_ins m261) 112 = some (.iload 5, 2, []) := by decide +kernel
theorem i261_114 : lk (mi_ins m261) 114 = some (.istore_n 3, 1, []) := by decide +kernel
theorem i261_115 : lk (mi_ins m261) 115 = some (.iload 4, 2, []) := by decide +kernel
theorem i261_117 : lk (mi_ins m261) 117 = some (.istore_n 2, 1, []) := by decide +kernel
theorem i261_118 : lk (mi_ins m261) 118 = some (.iinc 4 1, 3, [5, 6, 7, 8]) := by decide +kernel
theorem i261_121 : lk (mi_ins m261) 121 = some (.goto (-112), 3, []) := by decide +kernel
theorem i261_124 : lk (mi_ins m261) 124 = some (.iload_n 2, 1, [0, 1, 3, 4, 5, 6, 7, 8]) := by decide +kernel
theorem i261_125 : lk (mi_ins m261) 125 = some (.ireturn, 1, []) := by decide +kernel
theorem i262_0 : lk (mi_ins m262) 0 = some (.aload_n 0, 1, []) := by decide +kernel
theorem i262_1 : lk (mi_ins m262) 1 = some (.iconst 0, 1, []) := by decide +kernel
theorem i262_2 : lk (mi_ins m262) 2 = some (.putfield 51, 3, []) := by decide +kernel
theorem i262_5 : lk (mi_ins m262) 5 = some (.aload_n 0, 1, []) := by decide +kernel
theorem i262_6 : lk (mi_ins m262) 6 = some (.iload_n 1, 1, []) := by decide +kernel
theorem i262_7 : lk (mi_ins m262) 7 = some (.invokevirtual 413, 3, []) := by decide +kernel
theorem i262_10 : lk (mi_ins m262) 10 = some (.ifCond .ne 9, 3, []) := by decide +kernel
theorem i262_13 : lk (mi_ins m262) 13 = some (.aload_n 0, 1, []) := by decide +kernel
theorem i262_14 : lk (mi_ins m262) 14 = some (.iconst 1, 1, []) := by decide +kernel
theorem i262_15 : lk (mi_ins m262) 15 = some (.invokevirtual 57, 3, []) := by decide +kernel
theorem i262_18 : lk (mi_ins m262) 18 = some (.ireturn, 1, []) := by decide +kernel
theorem i262_19 : lk (mi_ins m262) 19 = some (.aload_n 0, 1, []) := by decide +kernel
theorem i262_20 : lk (mi_ins m262) 20 = some (.invokevirtual 407, 3, []) := by decide +kernel
theorem i262_23 : lk (mi_ins m262) 23 = some (.aload_n 0, 1, []) := by decide +kernel
theorem i262_24 : lk (mi_ins m262) 24 = some (.getfield 21, 3, []) := by decide +kernel
theorem i262_27 : lk (mi_ins m262) 27 = some (.bipush 25, 2, []) := by decide +kernel
theorem i262_29 : lk (mi_ins m262) 29 = some (.iload_n 1, 1, []) := by decide +kernel
theorem i262_30 : lk (mi_ins m262) 30 = some (.iadd, 1, []) := by decide +kernel
theorem i262_31 : lk (mi_ins m262) 31 = some (.iconst (-1), 1, []) := by decide +kernel
theorem i262_32 : lk (mi_ins m262) 32 = some (.iastore, 1, []) := by decide +kernel
theorem i262_33 : lk (mi_ins m262) 33 = some (.aload_n 0, 1, []) := by decide +kernel
theorem i262_34 : lk (mi_ins m262) 34 = some (.aload_n 0, 1, []) := by decide +kernel
theorem i262_35 : lk (mi_ins m262) 35 = some (.aload_n 0, 1, []) := by decide +kernel
theorem i262_36 : lk (mi_ins m262) 36 = some (.getfield 360, 3, []) := by decide +kernel
theorem i262_39 : lk (mi_ins m262) 39 = some (.getfield 298, 3, []) := by decide +kernel
theorem i262_42 : lk (mi_ins m262) 42 = some (.iload_n 1, 1, []) := by decide +kernel
theorem i262_43 : lk (mi_ins m262) 43 = some (.iaload, 1, []) := by decide +kernel
theorem i262_44 : lk (mi_ins m262) 44 = some (.invokevirtual 437, 3, []) := by decide +kernel
theorem i262_47 : lk (mi_ins m262) 47 = some (.invokevirtual 61, 3, []) := by decide +kernel
theorem i262_50 : lk (mi_ins m262) 50 = some (.ireturn, 1, []) := by decide +kernel
theorem i263_0 : lk (mi_ins m263) 0 = some (.aload_n 0, 1, []) := by decide +kernel
theorem i263_1 : lk (mi_ins m263) 1 = some (.iconst 0, 1, []) := by decide +kernel
theorem i263_2 : lk (mi_ins m263) 2 = some (.putfield 51, 3, []) := by decide +kernel
theorem i263_5 : lk (mi_ins m263) 5 = some (.aload_n 0, 1, []) := by decide +kernel
theorem i263_6 : lk (mi_ins m263) 6 = some (.getfield 360, 3, []) := by decide +kernel
theorem i263_9 : lk (mi_ins m263) 9 = some (.ifnonnull 9, 3, []) := by decide +kernel
theorem i263_12 : lk (mi_ins m263) 12 = some (.aload_n 0, 1, []) := by decide +kernel
theorem i263_13 : lk (mi_ins m263) 13 = some (.iconst 1, 1, []) := by decide +kernel
theorem i263_14 : lk (mi_ins m263) 14 = some (.invokevirtual 57, 3, []) := by decide +kernel
theorem i263_17 : lk (mi_ins m263) 17 = some (.ireturn, 1, []) := by decide +kernel
theorem i263_18 : lk (mi_ins m263) 18 = some (.aload_n 0, 1, []) := by decide +kernel
theorem i263_19 : lk (mi_ins m263) 19 = some (.invokevirtual 407, 3, []) := by decide +kernel
theorem i263_22 : lk (mi_ins m263) 22 = some (.aload_n 0, 1, []) := by decide +kernel
theorem i263_23 : lk (mi_ins m263) 23 = some (.invokevirtual 419, 3, []) := by decide +kernel
theorem i263_26 : lk (mi_ins m263) 26 = some (.invokestatic 392, 3, []) := by decide +kernel
theorem i263_29 : lk (mi_ins m263) 29 = some (.istore_n 1, 1, []) := by decide +kernel
theorem i263_30 : lk (mi_ins m263) 30 = some (.bipush (-2), 2, []) := by decide +kernel
theorem i263_32 : lk (mi_ins m263) 32 = some (.istore_n 2, 1, []) := by decide +kernel
theorem i263_33 : lk (mi_ins m263) 33 = some (.iconst 0, 1, []) := by decide +kernel
theorem i263_34 : lk (mi_ins m263) 34 = some (.istore_n 3, 1, []) := by decide +kernel
theorem i263_35 : lk (mi_ins m263) 35 = some (.iload_n 3, 1, []) := by decide +kernel
theorem i263_36 : lk (mi_ins m263) 36 = some (.aload_n 0, 1, []) := by decide +kernel
theorem i263_37 : lk (mi_ins m263) 37 = some (.getfield 360, 3, []) := by decide +kernel
theorem i263_40 : lk (mi_ins m263) 40 = some (.getfield 266, 3, []) := by decide +kernel
theorem i263_43 : lk (mi_ins m263) 43 = some (.if_icmp .ge 50, 3, []) := by decide +kernel
theorem i263_46 : lk (mi_ins m263) 46 = some (.aload_n 0, 1, []) := by decide +kernel
theorem i263_47 : lk (mi_ins m263) 47 = some (.invokevirtual 407, 3, []) := by decide +kernel
theorem i263_50 : lk (mi_ins m263) 50 = some (.aload_n 0, 1, []) := by decide +kernel
theorem i263_51 : lk (mi_ins m263) 51 = some (.getfield 21, 3, []) := by decide +kernel
theorem i263_54 : lk (mi_ins m263) 54 = some (.bipush 28, 2, []) := by decide +kernel
theorem i263_56 : lk (mi_ins m263) 56 = some (.dup2, 1, []) := by decide +kernel
theorem i263_57 : lk (mi_ins m263) 57 = some (.iaload, 1, []) := by decide +kernel
theorem i263_58 : lk (mi_ins m263) 58 = some (.iconst 1, 1, []) := by decide +kernel
theorem i263_59 : lk (mi_ins m263) 59 = some (.iload_n 3, 1, []) := by decide +kernel
theorem i263_60 : lk (mi_ins m263) 60 = some (.ishl, 1, []) := by decide +kernel
theorem i263_61 : lk (mi_ins m263) 61 = some (.ior, 1, []) := by decide +kernel
theorem i263_62 : lk (mi_ins m263) 62 = some (.iastore, 1, []) := by decide +kernel
theorem i263_63 : lk (mi_ins m263) 63 = some (.aload_n 0, 1, []) := by decide +kernel
theorem i263_64 : lk (mi_ins m263) 64 = some (.invokevirtual 419, 3, []) := by decide +kernel
theorem i263_67 : lk (mi_ins m263) 67 = some (.invokestatic 392, 3, []) := by decide +kernel
theorem i263_70 : lk (mi_ins m263) 70 = some (.iload_n 1, 1, []) := by decide +kernel
theorem i263_71 : lk (mi_ins m263) 71 = some (.if_icmp .lt 6, 3, []) := by decide +kernel
theorem i263_74 : lk (mi_ins m263) 74 = some (.goto 13, 3, []) := by decide +kernel
theorem i263_77 : lk (mi_ins m263) 77 = some (.aload_n 0, 1, []) := by decide +kernel
theorem i263_78 : lk (mi_ins m263) 78 = some (.invokevirtual 419, 3, []) := by decide +kernel
theorem i263_81 : lk (mi_ins m263) 81 = some (.invokestatic 392, 3, []) := by decide +kernel
theorem i263_84 : lk (mi_ins m263) 84 = some (.istore_n 1, 1, []) := by decide +kernel
theorem i263_85 : lk (mi_ins m263) 85 = some (.iload_n 3, 1, []) := by decide +kernel
theorem i263_86 : lk (mi_ins m263) 86 = some (.istore_n 2, 1, []) := by decide +kernel
theorem i263_87 : lk (mi_ins m263) 87 = some (.iinc 3 1, 3, []) := by decide +kernel
theorem i263_90 : lk (mi_ins m263) 90 = some (.goto (-55), 3, []) := by decide +kernel
theorem i263_93 : lk (mi_ins m263) 93 = some (.aload_n 0, 1, [1, 3]) := by decide +kernel
theorem i263_94 : lk (mi_ins m263) 94 = some (.iload_n 2, 1, []) := by decide +kernel
theorem i263_95 : lk (mi_ins m263) 95 = some (.invokevirtual 61, 3, []) := by decide +kernel
theorem i263_98 : lk (mi_ins m263) 98 = some (.ireturn, 1, []) := by decide +kernel
theorem i264_0 : lk (mi_ins m264) 0 = some (.aload_n 0, 1, []) := by decide +kernel
theorem i264_1 : lk (mi_ins m264) 1 = some (.iconst 0, 1, []) := by decide +kernel
theorem i264_2 : lk (mi_ins m264) 2 = some (.putfield 51, 3, []) := by decide +kernel
theorem i264_5 : lk (mi_ins m264) 5 = some (.aload_n 0, 1, []) := by decide +kernel
theorem i264_6 : lk (mi_ins m264) 6 = some (.aload_n 0, 1, []) := by decide +kernel
theorem i264_7 : lk (mi_ins m264) 7 = some (.getfield 360, 3, []) := by decide +kernel
theorem i264_10 : lk (mi_ins m264) 10 = some (.ifnull 7, 3, []) := by decide +kernel
theorem i264_13 : lk (mi_ins m264) 13 = some (.iconst 1, 1, []) := by decide +kernel
theorem i264_14 : lk (mi_ins m264) 14 = some (.goto 4, 3, []) := by decide +kernel
theorem i264_17 : lk (mi_ins m264) 17 = some (.iconst 0, 1, []) := by decide +kernel
theorem i264_18 : lk (mi_ins m264) 18 = some (.iload_n 1, 1, [2]) := by decide +kernel
theorem i264_19 : lk (mi_ins m264) 19 = some (.invokevirtual 455, 3, []) := by decide +kernel
theorem i264_22 : lk (mi_ins m264) 22 = some (.istore_n 2, 1, []) := by decide +kernel
theorem i264_23 : lk (mi_ins m264) 23 = some (.iload_n 2, 1, []) := by decide +kernel
theorem i264_24 : lk (mi_ins m264) 24 = some (.ifCond .le 11, 3, []) := by decide +kernel
theorem i264_27 : lk (mi_ins m264) 27 = some (.aload_n 0, 1, []) := by decide +kernel
theorem i264_28 : lk (mi_ins m264) 28 = some (.iload_n 2, 1, []) := by decide +kernel
theorem i264_29 : lk (mi_ins m264) 29 = some (.invokevirtual 57, 3, []) := by decide +kernel
theorem i264_32 : lk (mi_ins m264) 32 = some (.goto 13, 3, []) := by decide +kernel
theorem i264_35 : lk (mi_ins m264) 35 = some (.aload_n 0, 1, []) := by decide +kernel
theorem i264_36 : lk (mi_ins m264) 36 = some (.aload_n 0, 1, []) := by decide +kernel
theorem i264_37 : lk (mi_ins m264) 37 = some (.iload_n 1, 1, []) := by decide +kernel
theorem i264_38 : lk (mi_ins m264) 38 = some (.iconst 0, 1, []) := by decide +kernel
theorem i264_39 : lk (mi_ins m264) 39 = some (.invokevirtual 458, 3, []) := by decide +kernel
theorem i264_42 : lk (mi_ins m264) 42 = some (.invokevirtual 61, 3, []) := by decide +kernel
theorem i264_45 : lk (mi_ins m264) 45 = some (.ireturn, 1, [0, 1, 2]) := by decide +kernel
theorem i265_0 : lk (mi_ins m265) 0 = some (.iload_n 1, 1, []) := by decide +kernel
theorem i265_1 : lk (mi_ins m265) 1 = some (.ifCond .ne 7, 3, []) := by decide +kernel
theorem i265_4 : lk (mi_ins m265) 4 = some (.iconst 1, 1, []) := by decide +kernel
theorem i265_5 : lk (mi_ins m265) 5 = some (.goto 17, 3, []) := by decide +kernel
theorem i265_8 : lk (mi_ins m265) 8 = some (.iload_n 2, 1, []) := by decide +kernel
theorem i265_9 : lk (mi_ins m265) 9 = some (.iconst 1, 1, []) := by decide +kernel
theorem i265_10 : lk (mi_ins m265) 10 = some (.iconst 4, 1, []) := by decide +kernel
theorem i265_11 : lk (mi_ins m265) 11 = some (.invokestatic 130, 3, []) := by decide +kernel
theorem i265_14 : lk (mi_ins m265) 14 = some (.ifCond .eq 7, 3, []) := by decide +kernel
theorem i265_17 : lk (mi_ins m265) 17 = some (.iconst 0, 1, []) := by decide +kernel
theorem i265_18 : lk (mi_ins m265) 18 = some (.goto 4, 3, []) := by decide +kernel
theorem i265_21 : lk (mi_ins m265) 21 = some (.iconst 2, 1, []) := by decide +kernel
theorem i265_22 : lk (mi_ins m265) 22 = some (.ireturn, 1, [0, 1, 2]) := by decide +kernel
theorem i266_0 : lk (mi_ins m266) 0 = some (.bipush (-2), 2, []) := by decide +kernel
theorem i266_2 : lk (mi_ins m266) 2 = some (.istore_n 3, 1, []) := by decide +kernel
theorem i266_3 : lk (mi_ins m266) 3 = some (.iconst 0, 1, []) := by decide +kernel
theorem i266_4 : lk (mi_ins m266) 4 = some (.istore 4, 2, []) := by decide +kernel
theorem i266_6 : lk (mi_ins m266) 6 = some (.iload 4, 2, [5, 6]) := by decide +kernel
theorem i266_8 : lk (mi_ins m266) 8 = some (.aload_n 0, 1, []) := by decide +kernel
theorem i266_9 : lk (mi_ins m266) 9 = some (.iload_n 1, 1, []) := by decide +kernel
theorem i266_10 : lk (mi_ins m266) 10 = some (.invokevirtual 446, 3, []) := by decide +kernel
theorem i266_13 : lk (mi_ins m266) 13 = some (.if_icmp .ge 110, 3, []) := by decide +kernel
theorem i266_16 : lk (mi_ins m266) 16 = some (.aload_n 0, 1, []) := by decide +kernel
theorem i266_17 : lk (mi_ins m266) 17 = some (.iload 4, 2, []) := by decide +kernel
theorem i266_19 : lk (mi_ins m266) 19 = some (.iload_n 1, 1, []) := by decide +kernel
theorem i266_20 : lk (mi_ins m266) 20 = some (.invokevirtual 449, 3, []) := by decide +kernel
theorem i266_23 : lk (mi_ins m266) 23 = some (.istore 5, 2, []) := by decide +kernel
theorem i266_25 : lk (mi_ins m266) 25 = some (.iload_n 3, 1, []) := by decide +kernel
theorem i266_26 : lk (mi_ins m266) 26 = some (.bipush (-2), 2, []) := by decide +kernel
theorem i266_28 : lk (mi_ins m266) 28 = some (.if_icmp .eq 12, 3, []) := by decide +kernel
theorem i266_31 : lk (mi_ins m266) 31 = some (.iload 5, 2, []) := by decide +kernel
theorem i266_33 : lk (mi_ins m266) 33 = some (.iload_n 3, 1, []) := by decide +kernel
theorem i266_34 : lk (mi_ins m266) 34 = some (.if_icmp .lt 6, 3, []) := by decide +kernel
theorem i266_37 : lk (mi_ins m266) 37 = some (.goto 80, 3, []) := by decide +kernel
theorem i266_40 : lk (mi_ins m266) 40 = some (.aload_n 0, 1, [6]) := by decide +kernel
theorem i266_41 : lk (mi_ins m266) 41 = some (.invokevirtual 443, 3, []) := by decide +kernel
theorem i266_44 : lk (mi_ins m266) 44 = some (.aload_n 0, 1, []) := by decide +kernel
theorem i266_45 : lk (mi_ins m266) 45 = some (.invokevirtual 419, 3, []) := by decide +kernel
theorem i266_48 : lk (mi_ins m266) 48 = some (.ifCond .ne 69, 3, []) := by decide +kernel
theorem i266_51 : lk (mi_ins m266) 51 = some (.iload_n 2, 1, []) := by decide +kernel
theorem i266_52 : lk (mi_ins m266) 52 = some (.ifCond .eq 13, 3, []) := by decide +kernel
theorem i266_55 : lk (mi_ins m266) 55 = some (.aload_n 0, 1, []) := by decide +kernel
theorem i266_56 : lk (mi_ins m266) 56 = some (.invokevirtual 452, 3, []) := by decide +kernel
theorem i266_59 : lk (mi_ins m266) 59 = some (.ifCond .ne 6, 3, []) := by decide +kernel
theorem i266_62 : lk (mi_ins m266) 62 = some (.goto 55, 3, []) := by decide +kernel
theorem i266_65 : lk (mi_ins m266) 65 = some (.iload 5, 2, [3, 6]) := by decide +kernel
theorem i266_67 : lk (mi_ins m266) 67 = some (.istore_n 3, 1, []) := by decide +kernel
theorem i266_68 : lk (mi_ins m266) 68 = some (.iconst 0, 1, []) := by decide +kernel
theorem i266_69 : lk (mi_ins m266) 69 = some (.istore 6, 2, []) := by decide +kernel
theorem i266_71 : lk (mi_ins m266) 71 = some (.iload 6, 2, [5]) := by decide +kernel
theorem i266_73 : lk (mi_ins m266) 73 = some (.aload_n 0, 1, []) := by decide +kernel
theorem i266_74 : lk (mi_ins m266) 74 = some (.getfield 360, 3, []) := by decide +kernel
theorem i266_77 : lk (mi_ins m266) 77 = some (.getfield 302, 3, []) := by decide +kernel
theorem i266_80 : lk (mi_ins m266) 80 = some (.if_icmp .ge 37, 3, []) := by decide +kernel
theorem i266_83 : lk (mi_ins m266) 83 = some (.aload_n 0, 1, []) := by decide +kernel
theorem i266_84 : lk (mi_ins m266) 84 = some (.getfield 36, 3, []) := by decide +kernel
theorem i266_87 : lk (mi_ins m266) 87 = some (.iload 6, 2, []) := by decide +kernel
theorem i266_89 : lk (mi_ins m266) 89 = some (.aload_n 0, 1, []) := by decide +kernel
theorem i266_90 : lk (mi_ins m266) 90 = some (.getfield 30, 3, []) := by decide +kernel
theorem i266_93 : lk (mi_ins m266) 93 = some (.iload 6, 2, []) := by decide +kernel
theorem i266_95 : lk (mi_ins m266) 95 = some (.iaload, 1, []) := by decide +kernel
theorem i266_96 : lk (mi_ins m266) 96 = some (.iastore, 1, []) := by decide +kernel
theorem i266_97 : lk (mi_ins m266) 97 = some (.aload_n 0, 1, []) := by decide +kernel
theorem i266_98 : lk (mi_ins m266) 98 = some (.getfield 39, 3, []) := by decide +kernel
theorem i266_101 : lk (mi_ins m266) 101 = some (.iload 6, 2, []) := by decide +kernel
theorem i266_103 : lk (mi_ins m266) 103 = some (.aload_n 0, 1, []) := by decide +kernel
theorem i266_104 : lk (mi_ins m266) 104 = some (.getfield 33, 3, []) := by decide +kernel
theorem i266_107 : lk (mi_ins m266) 107 = some (.iload 6, 2, []) := by decide +kernel
theorem i266_109 : lk (mi_ins m266) 109 = some (.iaload, 1, []) := by decide +kernel
theorem i266_110 : lk (mi_ins m266) 110 = some (.iastore, 1, []) := by decide +kernel
theorem i266_111 : lk (mi_ins m266) 111 = some (.iinc 6 1, 3, []) := by decide +kernel
theorem i266_114 : lk (mi_ins m266) 114 = some (.goto (-43), 3, []) := by decide +kernel
theorem i266_117 : lk (mi_ins m266) 117 = some (.iinc 4 1, 3, [5, 6]) := by decide +kernel
theorem i266_120 : lk (mi_ins m266) 120 = some (.goto (-114), 3, []) := by decide +kernel
theorem i266_123 : lk (mi_ins m266) 123 = some (.iload_n 3, 1, [0, 1, 2, 4, 5, 6]) := by decide +kernel
theorem i266_124 : lk (mi_ins m266) 124 = some (.ireturn, 1, []) := by decide +kernel
theorem i267_0 : lk (mi_ins m267) 0 = some (.iconst 1, 1, []) := by decide +kernel
theorem i267_1 : lk (mi_ins m267) 1 = some (.istore_n 2, 1, []) := by decide +kernel
theorem i267_2 : lk (mi_ins m267) 2 = some (.iconst 0, 1, []) := by decide +kernel
theorem i267_3 : lk (mi_ins m267) 3 = some (.istore_n 3, 1, []) := by decide +kernel
theorem i267_4 : lk (mi_ins m267) 4 = some (.iload_n 3, 1, []) := by decide +kernel
theorem i267_5 : lk (mi_ins m267) 5 = some (.aload_n 0, 1, []) := by decide +kernel
theorem i267_6 : lk (mi_ins m267) 6 = some (.getfield 360, 3, []) := by decide +kernel
theorem i267_9 : lk (mi_ins m267) 9 = some (.getfield 302, 3, []) := by decide +kernel
theorem i267_12 : lk (mi_ins m267) 12 = some (.if_icmp .ge 17, 3, []) := by decide +kernel
theorem i267_15 : lk (mi_ins m267) 15 = some (.iload_n 2, 1, []) := by decide +kernel
theorem i267_16 : lk (mi_ins m267) 16 = some (.aload_n 0, 1, []) := by decide +kernel
theorem i267_17 : lk (mi_ins m267) 17 = some (.iload_n 1, 1, []) := by decide +kernel
theorem i267_18 : lk (mi_ins m267) 18 = some (.invokevirtual 440, 3, []) := by decide +kernel
theorem i267_21 : lk (mi_ins m267) 21 = some (.imul, 1, []) := by decide +kernel
theorem i267_22 : lk (mi_ins m267) 22 = some (.istore_n 2, 1, []) := by decide +kernel
theorem i267_23 : lk (mi_ins m267) 23 = some (.iinc 3 1, 3, []) := by decide +kernel
theorem i267_26 : lk (mi_ins m267) 26 = some (.goto (-22), 3, []) := by decide +kernel
theorem i267_29 : lk (mi_ins m267) 29 = some (.iload_n 2, 1, [0, 1, 3]) := by decide +kernel
theorem i267_30 : lk (mi_ins m267) 30 = some (.ireturn, 1, []) := by decide +kernel
theorem i268_0 : lk (mi_ins m268) 0 = some (.iconst 1, 1, []) := by decide +kernel
theorem i268_1 : lk (mi_ins m268) 1 = some (.iload_n 1, 1, []) := by decide +kernel
theorem i268_2 : lk (mi_ins m268) 2 = some (.aload_n 0, 1, []) := by decide +kernel
theorem i268_3 : lk (mi_ins m268) 3 = some (.getfield 360, 3, []) := by decide +kernel
theorem i268_6 : lk (mi_ins m268) 6 = some (.getfield 209, 3, []) := by decide +kernel
theorem i268_9 : lk (mi_ins m268) 9 = some (.imul, 1, []) := by decide +kernel
theorem i268_10 : lk (mi_ins m268) 10 = some (.iadd, 1, []) := by decide +kernel
theorem i268_11 : lk (mi_ins m268) 11 = some (.ireturn, 1, []) := by decide +kernel
theorem i269_0 : lk (mi_ins m269) 0 = some (.iload_n 1, 1, []) := by decide +kernel
theorem i269_1 : lk (mi_ins m269) 1 = some (.istore_n 3, 1, []) := by decide +kernel
theorem i269_2 : lk (mi_ins m269) 2 = some (.iconst 0, 1, []) := by decide +kernel
theorem i269_3 : lk (mi_ins m269) 3 = some (.istore 4, 2, []) := by decide +kernel
theorem i269_5 : lk (mi_ins m269) 5 = some (.aload_n 0, 1, []) := by decide +kernel
theorem i269_6 : lk (mi_ins m269) 6 = some (.getfield 360, 3, []) := by decide +kernel
theorem i269_9 : lk (mi_ins m269) 9 = some (.getfield 302, 3, []) := by decide +kernel
theorem i269_12 : lk (mi_ins m269) 12 = some (.iconst 1, 1, []) := by decide +kernel
theorem i269_13 : lk (mi_ins m269) 13 = some (.isub, 1, []) := by decide +kernel
theorem i269_14 : lk (mi_ins m269) 14 = some (.istore 5, 2, []) := by decide +kernel
theorem i269_16 : lk (mi_ins m269) 16 = some (.iload 5, 2, [1, 6]) := by decide +kernel
theorem i269_18 : lk (mi_ins m269) 18 = some (.ifCond .lt 108, 3, []) := by decide +kernel
theorem i269_21 : lk (mi_ins m269) 21 = some (.iload_n 3, 1, []) := by decide +kernel
theorem i269_22 : lk (mi_ins m269) 22 = some (.aload_n 0, 1, []) := by decide +kernel
theorem i269_23 : lk (mi_ins m269) 23 = some (.iload_n 2, 1, []) := by decide +kernel
theorem i269_24 : lk (mi_ins m269) 24 = some (.invokevirtual 440, 3, []) := by decide +kernel
theorem i269_27 : lk (mi_ins m269) 27 = some (.irem, 1, []) := by decide +kernel
theorem i269_28 : lk (mi_ins m269) 28 = some (.istore 6, 2, []) := by decide +kernel
theorem i269_30 : lk (mi_ins m269) 30 = some (.iload_n 3, 1, []) := by decide +kernel
theorem i269_31 : lk (mi_ins m269) 31 = some (.aload_n 0, 1, []) := by decide +kernel
theorem i269_32 : lk (mi_ins m269) 32 = some (.iload_n 2, 1, []) := by decide +kernel
theorem i269_33 : lk (mi_ins m269) 33 = some (.invokevirtual 440, 3, []) := by decide +kernel
theorem i269_36 : lk (mi_ins m269) 36 = some (.idiv, 1, []) := by decide +kernel
theorem i269_37 : lk (mi_ins m269) 37 = some (.istore_n 3, 1, []) := by decide +kernel
theorem i269_38 : lk (mi_ins m269) 38 = some (.aload_n 0, 1, []) := by decide +kernel
theorem i269_39 : lk (mi_ins m269) 39 = some (.getfield 30, 3, []) := by decide +kernel
theorem i269_42 : lk (mi_ins m269) 42 = some (.iload 5, 2, []) := by decide +kernel
theorem i269_44 : lk (mi_ins m269) 44 = some (.iload 6, 2, []) := by decide +kernel
theorem i269_46 : lk (mi_ins m269) 46 = some (.ifCond .ne 7, 3, []) := by decide +kernel
theorem i269_49 : lk (mi_ins m269) 49 = some (.iconst 0, 1, []) := by decide +kernel
theorem i269_50 : lk (mi_ins m269) 50 = some (.goto 17, 3, []) := by decide +kernel
theorem i269_53 : lk (mi_ins m269) 53 = some (.iconst 1, 1, []) := by decide +kernel
theorem i269_54 : lk (mi_ins m269) 54 = some (.iload 6, 2, []) := by decide +kernel
theorem i269_56 : lk (mi_ins m269) 56 = some (.iconst 1, 1, []) := by decide +kernel
theorem i269_57 : lk (mi_ins m269) 57 = some (.isub, 1, []) := by decide +kernel
theorem i269_58 : lk (mi_ins m269) 58 = some (.aload_n 0, 1, []) := by decide +kernel
theorem i269_59 : lk (mi_ins m269) 59 = some (.getfield 360, 3, []) := by decide +kernel
theorem i269_62 : lk (mi_ins m269) 62 = some (.getfield 209, 3, []) := by decide +kernel
theorem i269_65 : lk (mi_ins m269) 65 = some (.idiv, 1, []) := by decide +kernel
theorem i269_66 : lk (mi_ins m269) 66 = some (.iadd, 1, []) := by decide +kernel
theorem i269_67 : lk (mi_ins m269) 67 = some (.iastore, 1, [1]) := by decide +kernel
theorem i269_68 : lk (mi_ins m269) 68 = some (.aload_n 0, 1, []) := by decide +kernel
theorem i269_69 : lk (mi_ins m269) 69 = some (.getfield 33, 3, []) := by decide +kernel
theorem i269_72 : lk (mi_ins m269) 72 = some (.iload 5, 2, []) := by decide +kernel
theorem i269_74 : lk (mi_ins m269) 74 = some (.iload 6, 2, []) := by decide +kernel
theorem i269_76 : lk (mi_ins m269) 76 = some (.ifCond .ne 8, 3, []) := by decide +kernel
theorem i269_79 : lk (mi_ins m269) 79 = some (.bipush (-2), 2, []) := by decide +kernel
theorem i269_81 : lk (mi_ins m269) 81 = some (.goto 15, 3, []) := by decide +kernel
theorem i269_84 : lk (mi_ins m269) 84 = some (.iload 6, 2, []) := by decide +kernel
theorem i269_86 : lk (mi_ins m269) 86 = some (.iconst 1, 1, []) := by decide +kernel
theorem i269_87 : lk (mi_ins m269) 87 = some (.isub, 1, []) := by decide +kernel
theorem i269_88 : lk (mi_ins m269) 88 = some (.aload_n 0, 1, []) := by decide +kernel
theorem i269_89 : lk (mi_ins m269) 89 = some (.getfield 360, 3, []) := by decide +kernel
theorem i269_92 : lk (mi_ins m269) 92 = some (.getfield 209, 3, []) := by decide +kernel
theorem i269_95 : lk (mi_ins m269) 95 = some (.irem, 1, []) := by decide +kernel
theorem i269_96 : lk (mi_ins m269) 96 = some (.iastore, 1, [1, 6]) := by decide +kernel
theorem i269_97 : lk (mi_ins m269) 97 = some (.iload 4, 2, []) := by decide +kernel
theorem i269_99 : lk (mi_ins m269) 99 = some (.aload_n 0, 1, []) := by decide +kernel
theorem i269_100 : lk (mi_ins m269) 100 = some (.getfield 30, 3, []) := by decide +kernel
theorem i269_103 : lk (mi_ins m269) 103 = some (.iload 5, 2, []) := by decide +kernel
theorem i269_105 : lk (mi_ins m269) 105 = some (.iaload, 1, []) := by decide +kernel
theorem i269_106 : lk (mi_ins m269) 106 = some (.aload_n 0, 1, []) := by decide +kernel
theorem i269_107 : lk (mi_ins m269) 107 = some (.getfield 360, 3, []) := by decide +kernel
theorem i269_110 : lk (mi_ins m269) 110 = some (.getfield 310, 3, []) := by decide +kernel
theorem i269_113 : lk (mi_ins m269) 113 = some (.iload 5, 2, []) := by decide +kernel
theorem i269_115 : lk (mi_ins m269) 115 = some (.iaload, 1, []) := by decide +kernel
theorem i269_116 : lk (mi_ins m269) 116 = some (.imul, 1, []) := by decide +kernel
theorem i269_117 : lk (mi_ins m269) 117 = some (.iadd, 1, []) := by decide +kernel
theorem i269_118 : lk (mi_ins m269) 118 = some (.istore 4, 2, []) := by decide +kernel
theorem i269_120 : lk (mi_ins m269) 120 = some (.iinc 5 (-1), 3, []) := by decide +kernel
theorem i269_123 : lk (mi_ins m269) 123 = some (.goto (-107), 3, []) := by decide +kernel
theorem i269_126 : lk (mi_ins m269) 126 = some (.iload 4, 2, [0, 1, 2, 3, 5, 6]) := by decide +kernel
theorem i269_128 : lk (mi_ins m269) 128 = some (.ireturn, 1, []) := by decide +kernel
theorem i270_0 : lk (mi_ins m270) 0 = some (.aload_n 0, 1, []) := by decide +kernel
theorem i270_1 : lk (mi_ins m270) 1 = some (.invokevirtual 407, 3, []) := by decide +kernel
theorem i270_4 : lk (mi_ins m270) 4 = some (.iconst 0, 1, []) := by decide +kernel
theorem i270_5 : lk (mi_ins m270) 5 = some (.istore_n 1, 1, []) := by decide +kernel
theorem i270_6 : lk (mi_ins m270) 6 = some (.iload_n 1, 1, []) := by decide +kernel
theorem i270_7 : lk (mi_ins m270) 7 = some (.aload_n 0, 1, []) := by decide +kernel
theorem i270_8 : lk (mi_ins m270) 8 = some (.getfield 360, 3, []) := by decide +kernel
theorem i270_11 : lk (mi_ins m270) 11 = some (.getfield 302, 3, []) := by decide +kernel
theorem i270_14 : lk (mi_ins m270) 14 = some (.if_icmp .ge 60, 3, []) := by decide +kernel
theorem i270_17 : lk (mi_ins m270) 17 = some (.aload_n 0, 1, []) := by decide +kernel
theorem i270_18 : lk (mi_ins m270) 18 = some (.getfield 30, 3, []) := by decide +kernel
theorem i270_21 : lk (mi_ins m270) 21 = some (.iload_n 1, 1, []) := by decide +kernel
theorem i270_22 : lk (mi_ins m270) 22 = some (.iaload, 1, []) := by decide +kernel
theorem i270_23 : lk (mi_ins m270) 23 = some (.ifCond .le 45, 3, []) := by decide +kernel
theorem i270_26 : lk (mi_ins m270) 26 = some (.aload_n 0, 1, []) := by decide +kernel
theorem i270_27 : lk (mi_ins m270) 27 = some (.getfield 21, 3, []) := by decide +kernel
theorem i270_30 : lk (mi_ins m270) 30 = some (.aload_n 0, 1, []) := by decide +kernel
theorem i270_31 : lk (mi_ins m270) 31 = some (.getfield 33, 3, []) := by decide +kernel
theorem i270_34 : lk (mi_ins m270) 34 = some (.iload_n 1, 1, []) := by decide +kernel
theorem i270_35 : lk (mi_ins m270) 35 = some (.iaload, 1, []) := by decide +kernel
theorem i270_36 : lk (mi_ins m270) 36 = some (.aload_n 0, 1, []) := by decide +kernel
theorem i270_37 : lk (mi_ins m270) 37 = some (.getfield 360, 3, []) := by decide +kernel
theorem i270_40 : lk (mi_ins m270) 40 = some (.getfield 307, 3, []) := by decide +kernel
theorem i270_43 : lk (mi_ins m270) 43 = some (.iload_n 1, 1, []) := by decide +kernel
theorem i270_44 : lk (mi_ins m270) 44 = some (.iaload, 1, []) := by decide +kernel
theorem i270_45 : lk (mi_ins m270) 45 = some (.invokestatic 371, 3, []) := by decide +kernel
theorem i270_48 : lk (mi_ins m270) 48 = some (.dup2, 1, []) := by decide +kernel
theorem i270_49 : lk (mi_ins m270) 49 = some (.iaload, 1, []) := by decide +kernel
theorem i270_50 : lk (mi_ins m270) 50 = some (.aload_n 0, 1, []) := by decide +kernel
theorem i270_51 : lk (mi_ins m270) 51 = some (.getfield 30, 3, []) := by decide +kernel
theorem i270_54 : lk (mi_ins m270) 54 = some (.iload_n 1, 1, []) := by decide +kernel
theorem i270_55 : lk (mi_ins m270) 55 = some (.iaload, 1, []) := by decide +kernel
theorem i270_56 : lk (mi_ins m270) 56 = some (.aload_n 0, 1, []) := by decide +kernel
theorem i270_57 : lk (mi_ins m270) 57 = some (.getfield 360, 3, []) := by decide +kernel
theorem i270_60 : lk (mi_ins m270) 60 = some (.getfield 310, 3, []) := by decide +kernel
theorem i270_63 : lk (mi_ins m270) 63 = some (.iload_n 1, 1, []) := by decide +kernel
theorem i270_64 : lk (mi_ins m270) 64 = some (.iaload, 1, []) := by decide +kernel
theorem i270_65 : lk (mi_ins m270) 65 = some (.imul, 1, []) := by decide +kernel
theorem i270_66 : lk (mi_ins m270) 66 = some (.iadd, 1, []) := by decide +kernel
theorem i270_67 : lk (mi_ins m270) 67 = some (.iastore, 1, []) := by decide +kernel
theorem i270_68 : lk (mi_ins m270) 68 = some (.iinc 1 1, 3, []) := by decide +kernel
theorem i270_71 : lk (mi_ins m270) 71 = some (.goto (-65), 3, []) := by decide +kernel
theorem i270_74 : lk (mi_ins m270) 74 = some (.return_, 1, [0, 1]) := by decide +kernel
theorem i271_0 : lk (mi_ins m271) 0 = some (.iconst 0, 1, []) := by decide +kernel
theorem i271_1 : lk (mi_ins m271) 1 = some (.istore_n 1, 1, []) := by decide +kernel
theorem i271_2 : lk (mi_ins m271) 2 = some (.iload_n 1, 1, []) := by decide +kernel
theorem i271_3 : lk (mi_ins m271) 3 = some (.aload_n 0, 1, []) := by decide +kernel
theorem i271_4 : lk (mi_ins m271) 4 = some (.getfield 360, 3, []) := by decide +kernel
theorem i271_7 : lk (mi_ins m271) 7 = some (.getfield 312, 3, []) := by decide +kernel
theorem i271_10 : lk (mi_ins m271) 10 = some (.if_icmp .ge 36, 3, []) := by decide +kernel
theorem i271_13 : lk (mi_ins m271) 13 = some (.aload_n 0, 1, []) := by decide +kernel
theorem i271_14 : lk (mi_ins m271) 14 = some (.invokevirtual 443, 3, []) := by decide +kernel
theorem i271_17 : lk (mi_ins m271) 17 = some (.aload_n 0, 1, []) := by decide +kernel
theorem i271_18 : lk (mi_ins m271) 18 = some (.aload_n 0, 1, []) := by decide +kernel
theorem i271_19 : lk (mi_ins m271) 19 = some (.getfield 360, 3, []) := by decide +kernel
theorem i271_22 : lk (mi_ins m271) 22 = some (.getfield 322, 3, []) := by decide +kernel
theorem i271_25 : lk (mi_ins m271) 25 = some (.iload_n 1, 1, []) := by decide +kernel
theorem i271_26 : lk (mi_ins m271) 26 = some (.iaload, 1, []) := by decide +kernel
theorem i271_27 : lk (mi_ins m271) 27 = some (.invokevirtual 429, 3, []) := by decide +kernel
theorem i271_30 : lk (mi_ins m271) 30 = some (.aload_n 0, 1, []) := by decide +kernel
theorem i271_31 : lk (mi_ins m271) 31 = some (.iload_n 1, 1, []) := by decide +kernel
theorem i271_32 : lk (mi_ins m271) 32 = some (.invokevirtual 432, 3, []) := by decide +kernel
theorem i271_35 : lk (mi_ins m271) 35 = some (.ifCond .ne 5, 3, []) := by decide +kernel
theorem i271_38 : lk (mi_ins m271) 38 = some (.iconst 0, 1, []) := by decide +kernel
theorem i271_39 : lk (mi_ins m271) 39 = some (.ireturn, 1, []) := by decide +kernel
theorem i271_40 : lk (mi_ins m271) 40 = some (.iinc 1 1, 3, []) := by decide +kernel
theorem i271_43 : lk (mi_ins m271) 43 = some (.goto (-41), 3, []) := by decide +kernel
theorem i271_46 : lk (mi_ins m271) 46 = some (.iconst 1, 1, [0, 1]) := by decide +kernel
theorem i271_47 : lk (mi_ins m271) 47 = some (.ireturn, 1, []) := by decide +kernel
theorem i272_0 : lk (mi_ins m272) 0 = some (.aload_n 0, 1, []) := by decide +kernel
theorem i272_1 : lk (mi_ins m272) 1 = some (.iconst 0, 1, []) := by decide +kernel
theorem i272_2 : lk (mi_ins m272) 2 = some (.putfield 51, 3, []) := by decide +kernel
theorem i272_5 : lk (mi_ins m272) 5 = some (.aload_n 0, 1, []) := by decide +kernel
theorem i272_6 : lk (mi_ins m272) 6 = some (.aload_n 0, 1, []) := by decide +kernel
theorem i272_7 : lk (mi_ins m272) 7 = some (.iload_n 1, 1, []) := by decide +kernel
theorem i272_8 : lk (mi_ins m272) 8 = some (.invokevirtual 462, 3, []) := by decide +kernel
theorem i272_11 : lk (mi_ins m272) 11 = some (.iload_n 2, 1, []) := by decide +kernel
theorem i272_12 : lk (mi_ins m272) 12 = some (.invokevirtual 455, 3, []) := by decide +kernel
theorem i272_15 : lk (mi_ins m272) 15 = some (.istore_n 3, 1, []) := by decide +kernel
theorem i272_16 : lk (mi_ins m272) 16 = some (.iload_n 3, 1, []) := by decide +kernel
theorem i272_17 : lk (mi_ins m272) 17 = some (.ifCond .le 9, 3, []) := by decide +kernel
theorem i272_20 : lk (mi_ins m272) 20 = some (.aload_n 0, 1, []) := by decide +kernel
theorem i272_21 : lk (mi_ins m272) 21 = some (.iload_n 3, 1, []) := by decide +kernel
theorem i272_22 : lk (mi_ins m272) 22 = some (.invokevirtual 57, 3, []) := by decide +kernel
theorem i272_25 : lk (mi_ins m272) 25 = some (.ireturn, 1, []) := by decide +kernel
theorem i272_26 : lk (mi_ins m272) 26 = some (.aload_n 0, 1, []) := by decide +kernel
theorem i272_27 : lk (mi_ins m272) 27 = some (.aload_n 0, 1, []) := by decide +kernel
theorem i272_28 : lk (mi_ins m272) 28 = some (.iload_n 2, 1, []) := by decide +kernel
theorem i272_29 : lk (mi_ins m272) 29 = some (.iconst 0, 1, []) := by decide +kernel
theorem i272_30 : lk (mi_ins m272) 30 = some (.invokevirtual 458, 3, []) := by decide +kernel
theorem i272_33 : lk (mi_ins m272) 33 = some (.bipush (-2), 2, []) := by decide +kernel
theorem i272_35 : lk (mi_ins m272) 35 = some (.if_icmp .ne 8, 3, []) := by decide +kernel
theorem i272_38 : lk (mi_ins m272) 38 = some (.bipush (-2), 2, []) := by decide +kernel
theorem i272_40 : lk (mi_ins m272) 40 = some (.goto 9, 3, []) := by decide +kernel
theorem i272_43 : lk (mi_ins m272) 43 = some (.aload_n 0, 1, []) := by decide +kernel
theorem i272_44 : lk (mi_ins m272) 44 = some (.getfield 36, 3, []) := by decide +kernel
theorem i272_47 : lk (mi_ins m272) 47 = some (.iload_n 1, 1, []) := by decide +kernel
theorem i272_48 : lk (mi_ins m272) 48 = some (.iaload, 1, []) := by decide +kernel
theorem i272_49 : lk (mi_ins m272) 49 = some (.invokevirtual 61, 3, [0, 1, 2, 3]) := by decide +kernel
theorem i272_52 : lk (mi_ins m272) 52 = some (.ireturn, 1, []) := by decide +kernel
theorem i273_0 : lk (mi_ins m273) 0 = some (.aload_n 0, 1, []) := by decide +kernel
theorem i273_1 : lk (mi_ins m273) 1 = some (.getfield 360, 3, []) := by decide +kernel
theorem i273_4 : lk (mi_ins m273) 4 = some (.ifnull 22, 3, []) := by decide +kernel
theorem i273_7 : lk (mi_ins m273) 7 = some (.iload_n 1, 1, []) := by decide +kernel
theorem i273_8 : lk (mi_ins m273) 8 = some (.ifCond .lt 18, 3, []) := by decide +kernel
theorem i273_11 : lk (mi_ins m273) 11 = some (.iload_n 1, 1, []) := by decide +kernel
theorem i273_12 : lk (mi_ins m273) 12 = some (.aload_n 0, 1, []) := by decide +kernel
theorem i273_13 : lk (mi_ins m273) 13 = some (.getfield 360, 3, []) := by decide +kernel
theorem i273_16 : lk (mi_ins m273) 16 = some (.getfield 302, 3, []) := by decide +kernel
theorem i273_19 : lk (mi_ins m273) 19 = some (.if_icmp .ge 7, 3, []) := by decide +kernel
theorem i273_22 : lk (mi_ins m273) 22 = some (.iconst 1, 1, []) := by decide +kernel
theorem i273_23 : lk (mi_ins m273) 23 = some (.goto 4, 3, []) := by decide +kernel
theorem i273_26 : lk (mi_ins m273) 26 = some (.iconst 0, 1, [0, 1]) := by decide +kernel
theorem i273_27 : lk (mi_ins m273) 27 = some (.ireturn, 1, [0, 1]) := by decide +kernel
theorem i274_0 : lk (mi_ins m274) 0 = some (.aload_n 0, 1, []) := by decide +kernel
theorem i274_1 : lk (mi_ins m274) 1 = some (.iconst 0, 1, []) := by decide +kernel
theorem i274_2 : lk (mi_ins m274) 2 = some (.putfield 51, 3, []) := by decide +kernel
theorem i274_5 : lk (mi_ins m274) 5 = some (.aload_n 0, 1, []) := by decide +kernel
theorem i274_6 : lk (mi_ins m274) 6 = some (.aload_n 0, 1, []) := by decide +kernel
theorem i274_7 : lk (mi_ins m274) 7 = some (.iload_n 1, 1, []) := by decide +kernel
theorem i274_8 : lk (mi_ins m274) 8 = some (.invokevirtual 462, 3, []) := by decide +kernel
theorem i274_11 : lk (mi_ins m274) 11 = some (.iload_n 2, 1, []) := by decide +kernel
theorem i274_12 : lk (mi_ins m274) 12 = some (.invokevirtual 455, 3, []) := by decide +kernel
theorem i274_15 : lk (mi_ins m274) 15 = some (.istore_n 3, 1, []) := by decide +kernel
theorem i274_16 : lk (mi_ins m274) 16 = some (.iload_n 3, 1, []) := by decide +kernel
theorem i274_17 : lk (mi_ins m274) 17 = some (.ifCond .le 9, 3, []) := by decide +kernel
theorem i274_20 : lk (mi_ins m274) 20 = some (.aload_n 0, 1, []) := by decide +kernel
theorem i274_21 : lk (mi_ins m274) 21 = some (.iload_n 3, 1, []) := by decide +kernel
theorem i274_22 : lk (mi_ins m274) 22 = some (.invokevirtual 57, 3, []) := by decide +kernel
theorem i274_25 : lk (mi_ins m274) 25 = some (.ireturn, 1, []) := by decide +kernel
theorem i274_26 : lk (mi_ins m274) 26 = some (.aload_n 0, 1, []) := by decide +kernel
theorem i274_27 : lk (mi_ins m274) 27 = some (.aload_n 0, 1, []) := by decide +kernel
theorem i274_28 : lk (mi_ins m274) 28 = some (.iload_n 2, 1, []) := by decide +kernel
theorem i274_29 : lk (mi_ins m274) 29 = some (.iconst 0, 1, []) := by decide +kernel
theorem i274_30 : lk (mi_ins m274) 30 = some (.invokevirtual 458, 3, []) := by decide +kernel
theorem i274_33 : lk (mi_ins m274) 33 = some (.bipush (-2), 2, []) := by decide +kernel
theorem i274_35 : lk (mi_ins m274) 35 = some (.if_icmp .ne 8, 3, []) := by decide +kernel
theorem i274_38 : lk (mi_ins m274) 38 = some (.bipush (-2), 2, []) := by decide +kernel
theorem i274_40 : lk (mi_ins m274) 40 = some (.goto 9, 3, []) := by decide +kernel
theorem i274_43 : lk (mi_ins m274) 43 = some (.aload_n 0, 1, []) := by decide +kernel
theorem i274_44 : lk (mi_ins m274) 44 = some (.getfield 39, 3, []) := by decide +kernel
theorem i274_47 : lk (mi_ins m274) 47 = some (.iload_n 1, 1, []) := by decide +kernel
theorem i274_48 : lk (mi_ins m274) 48 = some (.iaload, 1, []) := by decide +kernel
theorem i274_49 : lk (mi_ins m274) 49 = some (.invokevirtual 61, 3, [0, 1, 2, 3]) := by decide +kernel
theorem i274_52 : lk (mi_ins m274) 52 = some (.ireturn, 1, []) := by decide +kernel
theorem i275_0 : lk (mi_ins m275) 0 = some (.aload_n 0, 1, []) := by decide +kernel
theorem i275_1 : lk (mi_ins m275) 1 = some (.iconst 0, 1, []) := by decide +kernel
theorem i275_2 : lk (mi_ins m275) 2 = some (.putfield 51, 3, []) := by decide +kernel
theorem i275_5 : lk (mi_ins m275) 5 = some (.aload_n 0, 1, []) := by decide +kernel
theorem i275_6 : lk (mi_ins m275) 6 = some (.aload_n 0, 1, []) := by decide +kernel
theorem i275_7 : lk (mi_ins m275) 7 = some (.getfield 360, 3, []) := by decide +kernel
theorem i275_10 : lk (mi_ins m275) 10 = some (.ifnull 7, 3, []) := by decide +kernel
theorem i275_13 : lk (mi_ins m275) 13 = some (.iconst 1, 1, []) := by decide +kernel
theorem i275_14 : lk (mi_ins m275) 14 = some (.goto 4, 3, []) := by decide +kernel
theorem i275_17 : lk (mi_ins m275) 17 = some (.iconst 0, 1, []) := by decide +kernel
theorem i275_18 : lk (mi_ins m275) 18 = some (.iload_n 1, 1, [2]) := by decide +kernel
theorem i275_19 : lk (mi_ins m275) 19 = some (.invokevirtual 455, 3, []) := by decide +kernel
theorem i275_22 : lk (mi_ins m275) 22 = some (.istore_n 2, 1, []) := by decide +kernel
theorem i275_23 : lk (mi_ins m275) 23 = some (.iload_n 2, 1, []) := by decide +kernel
theorem i275_24 : lk (mi_ins m275) 24 = some (.ifCond .le 11, 3, []) := by decide +kernel
theorem i275_27 : lk (mi_ins m275) 27 = some (.aload_n 0, 1, []) := by decide +kernel
theorem i275_28 : lk (mi_ins m275) 28 = some (.iload_n 2, 1, []) := by decide +kernel
theorem i275_29 : lk (mi_ins m275) 29 = some (.invokevirtual 57, 3, []) := by decide +kernel
theorem i275_32 : lk (mi_ins m275) 32 = some (.goto 13, 3, []) := by decide +kernel
theorem i275_35 : lk (mi_ins m275) 35 = some (.aload_n 0, 1, []) := by decide +kernel
theorem i275_36 : lk (mi_ins m275) 36 = some (.aload_n 0, 1, []) := by decide +kernel
theorem i275_37 : lk (mi_ins m275) 37 = some (.iload_n 1, 1, []) := by decide +kernel
theorem i275_38 : lk (mi_ins m275) 38 = some (.iconst 1, 1, []) := by decide +kernel
theorem i275_39 : lk (mi_ins m275) 39 = some (.invokevirtual 458, 3, []) := by decide +kernel
theorem i275_42 : lk (mi_ins m275) 42 = some (.invokevirtual 61, 3, []) := by decide +kernel
theorem i275_45 : lk (mi_ins m275) 45 = some (.ireturn, 1, [0, 1, 2]) := by decide +kernel
theorem i276_0 : lk (mi_ins m276) 0 = some (.aload_n 0, 1, []) := by decide +kernel
theorem i276_1 : lk (mi_ins m276) 1 = some (.iconst 0, 1, []) := by decide +kernel
theorem i276_2 : lk (mi_ins m276) 2 = some (.putfield 51, 3, []) := by decide +kernel
theorem i276_5 : lk (mi_ins m276) 5 = some (.aload_n 0, 1, []) := by decide +kernel
theorem i276_6 : lk (mi_ins m276) 6 = some (.aload_n 0, 1, []) := by decide +kernel
theorem i276_7 : lk (mi_ins m276) 7 = some (.iload_n 1, 1, []) := by decide +kernel
theorem i276_8 : lk (mi_ins m276) 8 = some (.invokevirtual 462, 3, []) := by decide +kernel
theorem i276_11 : lk (mi_ins m276) 11 = some (.iload_n 2, 1, []) := by decide +kernel
theorem i276_12 : lk (mi_ins m276) 12 = some (.invokevirtual 455, 3, []) := by decide +kernel
theorem i276_15 : lk (mi_ins m276) 15 = some (.istore_n 3, 1, []) := by decide +kernel
theorem i276_16 : lk (mi_ins m276) 16 = some (.iload_n 3, 1, []) := by decide +kernel
theorem i276_17 : lk (mi_ins m276) 17 = some (.ifCond .le 9, 3, []) := by decide +kernel
theorem i276_20 : lk (mi_ins m276) 20 = some (.aload_n 0, 1, []) := by decide +kernel
theorem i276_21 : lk (mi_ins m276) 21 = some (.iload_n 3, 1, []) := by decide +kernel
theorem i276_22 : lk (mi_ins m276) 22 = some (.invokevirtual 57, 3, []) := by decide +kernel
theorem i276_25 : lk (mi_ins m276) 25 = some (.ireturn, 1, []) := by decide +kernel
theorem i276_26 : lk (mi_ins m276) 26 = some (.aload_n 0, 1, []) := by decide +kernel
theorem i276_27 : lk (mi_ins m276) 27 = some (.aload_n 0, 1, []) := by decide +kernel
theorem i276_28 : lk (mi_ins m276) 28 = some (.iload_n 2, 1, []) := by decide +kernel
theorem i276_29 : lk (mi_ins m276) 29 = some (.iconst 1, 1, []) := by decide +kernel
theorem i276_30 : lk (mi_ins m276) 30 = some (.invokevirtual 458, 3, []) := by decide +kernel
theorem i276_33 : lk (mi_ins m276) 33 = some (.bipush (-2), 2, []) := by decide +kernel
theorem i276_35 : lk (mi_ins m276) 35 = some (.if_icmp .ne 8, 3, []) := by decide +kernel
theorem i276_38 : lk (mi_ins m276) 38 = some (.bipush (-2), 2, []) := by decide +kernel
theorem i276_40 : lk (mi_ins m276) 40 = some (.goto 9, 3, []) := by decide +kernel
theorem i276_43 : lk (mi_ins m276) 43 = some (.aload_n 0, 1, []) := by decide +kernel
theorem i276_44 : lk (mi_ins m276) 44 = some (.getfield 39, 3, []) := by decide +kernel
theorem i276_47 : lk (mi_ins m276) 47 = some (.iload_n 1, 1, []) := by decide +kernel
theorem i276_48 : lk (mi_ins m276) 48 = some (.iaload, 1, []) := by decide +kernel
theorem i276_49 : lk (mi_ins m276) 49 = some (.invokevirtual 61, 3, [0, 1, 2, 3]) := by decide +kernel
theorem i276_52 : lk (mi_ins m276) 52 = some (.ireturn, 1, []) := by decide +kernel
theorem i277_0 : lk (mi_ins m277) 0 = some (.aload_n 0, 1, []) := by decide +kernel
theorem i277_1 : lk (mi_ins m277) 1 = some (.iconst 0, 1, []) := by decide +kernel
theorem i277_2 : lk (mi_ins m277) 2 = some (.putfield 51, 3, []) := by decide +kernel
theorem i277_5 : lk (mi_ins m277) 5 = some (.aload_n 0, 1, []) := by decide +kernel
theorem i277_6 : lk (mi_ins m277) 6 = some (.getfield 360, 3, []) := by decide +kernel
theorem i277_9 : lk (mi_ins m277) 9 = some (.ifnonnull 9, 3, []) := by decide +kernel
theorem i277_12 : lk (mi_ins m277) 12 = some (.aload_n 0, 1, []) := by decide +kernel
theorem i277_13 : lk (mi_ins m277) 13 = some (.iconst 1, 1, []) := by decide +kernel
theorem i277_14 : lk (mi_ins m277) 14 = some (.invokevirtual 57, 3, []) := by decide +kernel
theorem i277_17 : lk (mi_ins m277) 17 = some (.ireturn, 1, []) := by decide +kernel
theorem i277_18 : lk (mi_ins m277) 18 = some (.aload_n 0, 1, []) := by decide +kernel
theorem i277_19 : lk (mi_ins m277) 19 = some (.iconst (-1), 1, []) := by decide +kernel
theorem i277_20 : lk (mi_ins m277) 20 = some (.invokevirtual 477, 3, []) := by decide +kernel
theorem i277_23 : lk (mi_ins m277) 23 = some (.pop, 1, []) := by decide +kernel
theorem i277_24 : lk (mi_ins m277) 24 = some (.aload_n 0, 1, []) := by decide +kernel
theorem i277_25 : lk (mi_ins m277) 25 = some (.aload_n 0, 1, []) := by decide +kernel
theorem i277_26 : lk (mi_ins m277) 26 = some (.getfield 465, 3, []) := by decide +kernel
theorem i277_29 : lk (mi_ins m277) 29 = some (.invokevirtual 61, 3, []) := by decide +kernel
theorem i277_32 : lk (mi_ins m277) 32 = some (.ireturn, 1, []) := by decide +kernel
theorem i278_0 : lk (mi_ins m278) 0 = some (.aload_n 0, 1, []) := by decide +kernel
theorem i278_1 : lk (mi_ins m278) 1 = some (.iconst 0, 1, []) := by decide +kernel
theorem i278_2 : lk (mi_ins m278) 2 = some (.putfield 465, 3, []) := by decide +kernel
theorem i278_5 : lk (mi_ins m278) 5 = some (.aload_n 0, 1, []) := by decide +kernel
theorem i278_6 : lk (mi_ins m278) 6 = some (.iconst 0, 1, []) := by decide +kernel
theorem i278_7 : lk (mi_ins m278) 7 = some (.putfield 468, 3, []) := by decide +kernel
theorem i278_10 : lk (mi_ins m278) 10 = some (.aload_n 0, 1, []) := by decide +kernel
theorem i278_11 : lk (mi_ins m278) 11 = some (.iconst 1, 1, []) := by decide +kernel
theorem i278_12 : lk (mi_ins m278) 12 = some (.aload_n 0, 1, []) := by decide +kernel
theorem i278_13 : lk (mi_ins m278) 13 = some (.getfield 360, 3, []) := by decide +kernel
theorem i278_16 : lk (mi_ins m278) 16 = some (.getfield 302, 3, []) := by decide +kernel
theorem i278_19 : lk (mi_ins m278) 19 = some (.ishl, 1, []) := by decide +kernel
theorem i278_20 : lk (mi_ins m278) 20 = some (.iconst 1, 1, []) := by decide +kernel
theorem i278_21 : lk (mi_ins m278) 21 = some (.isub, 1, []) := by decide +kernel
theorem i278_22 : lk (mi_ins m278) 22 = some (.putfield 471, 3, []) := by decide +kernel
theorem i278_25 : lk (mi_ins m278) 25 = some (.bipush (-2), 2, []) := by decide +kernel
theorem i278_27 : lk (mi_ins m278) 27 = some (.istore_n 2, 1, []) := by decide +kernel
theorem i278_28 : lk (mi_ins m278) 28 = some (.iconst 0, 1, []) := by decide +kernel
theorem i278_29 : lk (mi_ins m278) 29 = some (.istore_n 3, 1, []) := by decide +kernel
theorem i278_30 : lk (mi_ins m278) 30 = some (.iload_n 3, 1, [4]) := by decide +kernel
theorem i278_31 : lk (mi_ins m278) 31 = some (.iconst 3, 1, []) := by decide +kernel
theorem i278_32 : lk (mi_ins m278) 32 = some (.if_icmp .ge 16, 3, []) := by decide +kernel
theorem i278_35 : lk (mi_ins m278) 35 = some (.aload_n 0, 1, []) := by decide +kernel
theorem i278_36 : lk (mi_ins m278) 36 = some (.getfield 42, 3, []) := by decide +kernel
theorem i278_39 : lk (mi_ins m278) 39 = some (.iload_n 3, 1, []) := by decide +kernel
theorem i278_40 : lk (mi_ins m278) 40 = some (.iconst 0, 1, []) := by decide +kernel
theorem i278_41 : lk (mi_ins m278) 41 = some (.iastore, 1, []) := by decide +kernel
theorem i278_42 : lk (mi_ins m278) 42 = some (.iinc 3 1, 3, []) := by decide +kernel
theorem i278_45 : lk (mi_ins m278) 45 = some (.goto (-15), 3, []) := by decide +kernel
theorem i278_48 : lk (mi_ins m278) 48 = some (.iconst 0, 1, [3, 4]) := by decide +kernel
theorem i278_49 : lk (mi_ins m278) 49 = some (.istore_n 3, 1, []) := by decide +kernel
theorem i278_50 : lk (mi_ins m278) 50 = some (.iload_n 3, 1, [4]) := by decide +kernel
theorem i278_51 : lk (mi_ins m278) 51 = some (.iconst 1, 1, []) := by decide +kernel
theorem i278_52 : lk (mi_ins m278) 52 = some (.aload_n 0, 1, []) := by decide +kernel
theorem i278_53 : lk (mi_ins m278) 53 = some (.getfield 360, 3, []) := by decide +kernel
theorem i278_56 : lk (mi_ins m278) 56 = some (.getfield 302, 3, []) := by decide +kernel
theorem i278_59 : lk (mi_ins m278) 59 = some (.ishl, 1, []) := by decide +kernel
theorem i278_60 : lk (mi_ins m278) 60 = some (.if_icmp .ge 107, 3, []) := by decide +kernel
theorem i278_63 : lk (mi_ins m278) 63 = some (.aload_n 0, 1, []) := by decide +kernel
theorem i278_64 : lk (mi_ins m278) 64 = some (.iload_n 3, 1, []) := by decide +kernel
theorem i278_65 : lk (mi_ins m278) 65 = some (.invokevirtual 474, 3, []) := by decide +kernel
theorem i278_68 : lk (mi_ins m278) 68 = some (.bipush (-2), 2, []) := by decide +kernel
theorem i278_70 : lk (mi_ins m278) 70 = some (.if_icmp .eq 6, 3, []) := by decide +kernel
theorem i278_73 : lk (mi_ins m278) 73 = some (.goto 88, 3, []) := by decide +kernel
theorem i278_76 : lk (mi_ins m278) 76 = some (.aload_n 0, 1, []) := by decide +kernel
theorem i278_77 : lk (mi_ins m278) 77 = some (.getfield 465, 3, []) := by decide +kernel
theorem i278_80 : lk (mi_ins m278) 80 = some (.iload_n 1, 1, []) := by decide +kernel
theorem i278_81 : lk (mi_ins m278) 81 = some (.if_icmp .ne 5, 3, []) := by decide +kernel
theorem i278_84 : lk (mi_ins m278) 84 = some (.iload_n 3, 1, []) := by decide +kernel
theorem i278_85 : lk (mi_ins m278) 85 = some (.istore_n 2, 1, []) := by decide +kernel
theorem i278_86 : lk (mi_ins m278) 86 = some (.aload_n 0, 1, [4]) := by decide +kernel
theorem i278_87 : lk (mi_ins m278) 87 = some (.dup, 1, []) := by decide +kernel
theorem i278_88 : lk (mi_ins m278) 88 = some (.getfield 465, 3, []) := by decide +kernel
theorem i278_91 : lk (mi_ins m278) 91 = some (.iconst 1, 1, []) := by decide +kernel
theorem i278_92 : lk (mi_ins m278) 92 = some (.iadd, 1, []) := by decide +kernel
theorem i278_93 : lk (mi_ins m278) 93 = some (.putfield 465, 3, []) := by decide +kernel
theorem i278_96 : lk (mi_ins m278) 96 = some (.aload_n 0, 1, []) := by decide +kernel
theorem i278_97 : lk (mi_ins m278) 97 = some (.dup, 1, []) := by decide +kernel
theorem i278_98 : lk (mi_ins m278) 98 = some (.getfield 468, 3, []) := by decide +kernel
theorem i278_101 : lk (mi_ins m278) 101 = some (.iload_n 3, 1, []) := by decide +kernel
theorem i278_102 : lk (mi_ins m278) 102 = some (.ior, 1, []) := by decide +kernel
theorem i278_103 : lk (mi_ins m278) 103 = some (.putfield 468, 3, []) := by decide +kernel
theorem i278_106 : lk (mi_ins m278) 106 = some (.aload_n 0, 1, []) := by decide +kernel
theorem i278_107 : lk (mi_ins m278) 107 = some (.dup, 1, []) := by decide +kernel
theorem i278_108 : lk (mi_ins m278) 108 = some (.getfield 471, 3, []) := by decide +kernel
theorem i278_111 : lk (mi_ins m278) 111 = some (.iload_n 3, 1, []) := by decide +kernel
theorem i278_112 : lk (mi_ins m278) 112 = some (.iand, 1, []) := by decide +kernel
theorem i278_113 : lk (mi_ins m278) 113 = some (.putfield 471, 3, []) := by decide +kernel
theorem i278_116 : lk (mi_ins m278) 116 = some (.iconst 0, 1, []) := by decide +kernel
theorem i278_117 : lk (mi_ins m278) 117 = some (.istore 4, 2, []) := by decide +kernel
theorem i278_119 : lk (mi_ins m278) 119 = some (.iload 4, 2, []) := by decide +kernel
theorem i278_121 : lk (mi_ins m278) 121 = some (.aload_n 0, 1, []) := by decide +kernel
theorem i278_122 : lk (mi_ins m278) 122 = some (.getfield 360, 3, []) := by decide +kernel
theorem i278_125 : lk (mi_ins m278) 125 = some (.getfield 302, 3, []) := by decide +kernel
theorem i278_128 : lk (mi_ins m278) 128 = some (.if_icmp .ge 33, 3, []) := by decide +kernel
theorem i278_131 : lk (mi_ins m278) 131 = some (.aload_n 0, 1, []) := by decide +kernel
theorem i278_132 : lk (mi_ins m278) 132 = some (.getfield 42, 3, []) := by decide +kernel
theorem i278_135 : lk (mi_ins m278) 135 = some (.iload 4, 2, []) := by decide +kernel
theorem i278_137 : lk (mi_ins m278) 137 = some (.dup2, 1, []) := by decide +kernel
theorem i278_138 : lk (mi_ins m278) 138 = some (.iaload, 1, []) := by decide +kernel
theorem i278_139 : lk (mi_ins m278) 139 = some (.iload_n 3, 1, []) := by decide +kernel
theorem i278_140 : lk (mi_ins m278) 140 = some (.iload 4, 2, []) := by decide +kernel
theorem i278_142 : lk (mi_ins m278) 142 = some (.invokestatic 288, 3, []) := by decide +kernel
theorem i278_145 : lk (mi_ins m278) 145 = some (.ifCond .eq 7, 3, []) := by decide +kernel
theorem i278_148 : lk (mi_ins m278) 148 = some (.iconst 1, 1, []) := by decide +kernel
theorem i278_149 : lk (mi_ins m278) 149 = some (.goto 4, 3, []) := by decide +kernel
theorem i278_152 : lk (mi_ins m278) 152 = some (.iconst 0, 1, []) := by decide +kernel
theorem i278_153 : lk (mi_ins m278) 153 = some (.iadd, 1, []) := by decide +kernel
theorem i278_154 : lk (mi_ins m278) 154 = some (.iastore, 1, []) := by decide +kernel
theorem i278_155 : lk (mi_ins m278) 155 = some (.iinc 4 1, 3, []) := by decide +kernel
theorem i278_158 : lk (mi_ins m278) 158 = some (.goto (-39), 3, []) := by decide +kernel
theorem i278_161 : lk (mi_ins m278) 161 = some (.iinc 3 1, 3, [4]) := by decide +kernel
theorem i278_164 : lk (mi_ins m278) 164 = some (.goto (-114), 3, []) := by decide +kernel
theorem i278_167 : lk (mi_ins m278) 167 = some (.aload_n 0, 1, [1, 3, 4]) := by decide +kernel
theorem i278_168 : lk (mi_ins m278) 168 = some (.getfield 465, 3, []) := by decide +kernel
theorem i278_171 : lk (mi_ins m278) 171 = some (.ifCond .ne 8, 3, []) := by decide +kernel
theorem i278_174 : lk (mi_ins m278) 174 = some (.aload_n 0, 1, []) := by decide +kernel
theorem i278_175 : lk (mi_ins m278) 175 = some (.iconst 0, 1, []) := by decide +kernel
theorem i278_176 : lk (mi_ins m278) 176 = some (.putfield 471, 3, []) := by decide +kernel
theorem i278_179 : lk (mi_ins m278) 179 = some (.iload_n 2, 1, [0, 1, 3, 4]) := by decide +kernel
theorem i278_180 : lk (mi_ins m278) 180 = some (.ireturn, 1, []) := by decide +kernel
theorem i279_0 : lk (mi_ins m279) 0 = some (.aload_n 0, 1, []) := by decide +kernel
theorem i279_1 : lk (mi_ins m279) 1 = some (.iload_n 1, 1, []) := by decide +kernel
theorem i279_2 : lk (mi_ins m279) 2 = some (.invokevirtual 362, 3, []) := by decide +kernel
theorem i279_5 : lk (mi_ins m279) 5 = some (.iconst 0, 1, []) := by decide +kernel
theorem i279_6 : lk (mi_ins m279) 6 = some (.istore_n 2, 1, []) := by decide +kernel
theorem i279_7 : lk (mi_ins m279) 7 = some (.iload_n 2, 1, [1]) := by decide +kernel
theorem i279_8 : lk (mi_ins m279) 8 = some (.aload_n 0, 1, []) := by decide +kernel
theorem i279_9 : lk (mi_ins m279) 9 = some (.getfield 360, 3, []) := by decide +kernel
theorem i279_12 : lk (mi_ins m279) 12 = some (.getfield 348, 3, []) := by decide +kernel
theorem i279_15 : lk (mi_ins m279) 15 = some (.if_icmp .ge 36, 3, []) := by decide +kernel
theorem i279_18 : lk (mi_ins m279) 18 = some (.aload_n 0, 1, []) := by decide +kernel
theorem i279_19 : lk (mi_ins m279) 19 = some (.aload_n 0, 1, []) := by decide +kernel
theorem i279_20 : lk (mi_ins m279) 20 = some (.getfield 360, 3, []) := by decide +kernel
theorem i279_23 : lk (mi_ins m279) 23 = some (.getfield 345, 3, []) := by decide +kernel
theorem i279_26 : lk (mi_ins m279) 26 = some (.iload_n 2, 1, []) := by decide +kernel
theorem i279_27 : lk (mi_ins m279) 27 = some (.iaload, 1, []) := by decide +kernel
theorem i279_28 : lk (mi_ins m279) 28 = some (.invokevirtual 398, 3, []) := by decide +kernel
theorem i279_31 : lk (mi_ins m279) 31 = some (.aload_n 0, 1, []) := by decide +kernel
theorem i279_32 : lk (mi_ins m279) 32 = some (.getfield 360, 3, []) := by decide +kernel
theorem i279_35 : lk (mi_ins m279) 35 = some (.getfield 350, 3, []) := by decide +kernel
theorem i279_38 : lk (mi_ins m279) 38 = some (.iload_n 2, 1, []) := by decide +kernel
theorem i279_39 : lk (mi_ins m279) 39 = some (.iaload, 1, []) := by decide +kernel
theorem i279_40 : lk (mi_ins m279) 40 = some (.if_icmp .eq 5, 3, []) := by decide +kernel
theorem i279_43 : lk (mi_ins m279) 43 = some (.iload_n 2, 1, []) := by decide +kernel
theorem i279_44 : lk (mi_ins m279) 44 = some (.ireturn, 1, []) := by decide +kernel
theorem i279_45 : lk (mi_ins m279) 45 = some (.iinc 2 1, 3, []) := by decide +kernel
theorem i279_48 : lk (mi_ins m279) 48 = some (.goto (-41), 3, []) := by decide +kernel
theorem i279_51 : lk (mi_ins m279) 51 = some (.bipush (-2), 2, [0, 1, 2]) := by decide +kernel
theorem i279_53 : lk (mi_ins m279) 53 = some (.ireturn, 1, []) := by decide +kernel
theorem i280_0 : lk (mi_ins m280) 0 = some (.aload_n 0, 1, []) := by decide +kernel
theorem i280_1 : lk (mi_ins m280) 1 = some (.iconst 0, 1, []) := by decide +kernel
theorem i280_2 : lk (mi_ins m280) 2 = some (.putfield 51, 3, []) := by decide +kernel
theorem i280_5 : lk (mi_ins m280) 5 = some (.aload_n 0, 1, []) := by decide +kernel
theorem i280_6 : lk (mi_ins m280) 6 = some (.getfield 360, 3, []) := by decide +kernel
theorem i280_9 : lk (mi_ins m280) 9 = some (.ifnull 7, 3, []) := by decide +kernel
theorem i280_12 : lk (mi_ins m280) 12 = some (.iload_n 1, 1, []) := by decide +kernel
theorem i280_13 : lk (mi_ins m280) 13 = some (.ifCond .ge 9, 3, []) := by decide +kernel
theorem i280_16 : lk (mi_ins m280) 16 = some (.aload_n 0, 1, [1, 2]) := by decide +kernel
theorem i280_17 : lk (mi_ins m280) 17 = some (.iconst 1, 1, []) := by decide +kernel
theorem i280_18 : lk (mi_ins m280) 18 = some (.invokevirtual 57, 3, []) := by decide +kernel
theorem i280_21 : lk (mi_ins m280) 21 = some (.ireturn, 1, []) := by decide +kernel
theorem i280_22 : lk (mi_ins m280) 22 = some (.aload_n 0, 1, []) := by decide +kernel
theorem i280_23 : lk (mi_ins m280) 23 = some (.iload_n 1, 1, []) := by decide +kernel
theorem i280_24 : lk (mi_ins m280) 24 = some (.invokevirtual 477, 3, []) := by decide +kernel
theorem i280_27 : lk (mi_ins m280) 27 = some (.istore_n 2, 1, []) := by decide +kernel
theorem i280_28 : lk (mi_ins m280) 28 = some (.iload_n 2, 1, []) := by decide +kernel
theorem i280_29 : lk (mi_ins m280) 29 = some (.bipush (-2), 2, []) := by decide +kernel
theorem i280_31 : lk (mi_ins m280) 31 = some (.if_icmp .ne 11, 3, []) := by decide +kernel
theorem i280_34 : lk (mi_ins m280) 34 = some (.aload_n 0, 1, []) := by decide +kernel
theorem i280_35 : lk (mi_ins m280) 35 = some (.iconst 1, 1, []) := by decide +kernel
theorem i280_36 : lk (mi_ins m280) 36 = some (.invokevirtual 57, 3, []) := by decide +kernel
theorem i280_39 : lk (mi_ins m280) 39 = some (.goto 8, 3, []) := by decide +kernel
theorem i280_42 : lk (mi_ins m280) 42 = some (.aload_n 0, 1, []) := by decide +kernel
theorem i280_43 : lk (mi_ins m280) 43 = some (.iload_n 2, 1, []) := by decide +kernel
theorem i280_44 : lk (mi_ins m280) 44 = some (.invokevirtual 61, 3, []) := by decide +kernel
theorem i280_47 : lk (mi_ins m280) 47 = some (.ireturn, 1, [0, 1, 2]) := by decide +kernel
theorem i281_0 : lk (mi_ins m281) 0 = some (.aload_n 0, 1, []) := by decide +kernel
theorem i281_1 : lk (mi_ins m281) 1 = some (.iconst 0, 1, []) := by decide +kernel
theorem i281_2 : lk (mi_ins m281) 2 = some (.putfield 51, 3, []) := by decide +kernel
theorem i281_5 : lk (mi_ins m281) 5 = some (.aload_n 0, 1, []) := by decide +kernel
theorem i281_6 : lk (mi_ins m281) 6 = some (.getfield 360, 3, []) := by decide +kernel
theorem i281_9 : lk (mi_ins m281) 9 = some (.ifnonnull 9, 3, []) := by decide +kernel
theorem i281_12 : lk (mi_ins m281) 12 = some (.aload_n 0, 1, []) := by decide +kernel
theorem i281_13 : lk (mi_ins m281) 13 = some (.iconst 1, 1, []) := by decide +kernel
theorem i281_14 : lk (mi_ins m281) 14 = some (.invokevirtual 57, 3, []) := by decide +kernel
theorem i281_17 : lk (mi_ins m281) 17 = some (.ireturn, 1, []) := by decide +kernel
theorem i281_18 : lk (mi_ins m281) 18 = some (.aload_n 0, 1, []) := by decide +kernel
theorem i281_19 : lk (mi_ins m281) 19 = some (.iconst (-1), 1, []) := by decide +kernel
theorem i281_20 : lk (mi_ins m281) 20 = some (.invokevirtual 477, 3, []) := by decide +kernel
theorem i281_23 : lk (mi_ins m281) 23 = some (.pop, 1, []) := by decide +kernel
theorem i281_24 : lk (mi_ins m281) 24 = some (.aload_n 0, 1, []) := by decide +kernel
theorem i281_25 : lk (mi_ins m281) 25 = some (.aload_n 0, 1, []) := by decide +kernel
theorem i281_26 : lk (mi_ins m281) 26 = some (.getfield 468, 3, []) := by decide +kernel
theorem i281_29 : lk (mi_ins m281) 29 = some (.invokevirtual 61, 3, []) := by decide +kernel
theorem i281_32 : lk (mi_ins m281) 32 = some (.ireturn, 1, []) := by decide +kernel
theorem i282_0 : lk (mi_ins m282) 0 = some (.aload_n 0, 1, []) := by decide +kernel
theorem i282_1 : lk (mi_ins m282) 1 = some (.iconst 0, 1, []) := by decide +kernel
theorem i282_2 : lk (mi_ins m282) 2 = some (.putfield 51, 3, []) := by decide +kernel
theorem i282_5 : lk (mi_ins m282) 5 = some (.aload_n 0, 1, []) := by decide +kernel
theorem i282_6 : lk (mi_ins m282) 6 = some (.getfield 360, 3, []) := by decide +kernel
theorem i282_9 : lk (mi_ins m282) 9 = some (.ifnonnull 9, 3, []) := by decide +kernel
theorem i282_12 : lk (mi_ins m282) 12 = some (.aload_n 0, 1, []) := by decide +kernel
theorem i282_13 : lk (mi_ins m282) 13 = some (.iconst 1, 1, []) := by decide +kernel
theorem i282_14 : lk (mi_ins m282) 14 = some (.invokevirtual 57, 3, []) := by decide +kernel
theorem i282_17 : lk (mi_ins m282) 17 = some (.ireturn, 1, []) := by decide +kernel
theorem i282_18 : lk (mi_ins m282) 18 = some (.aload_n 0, 1, []) := by decide +kernel
theorem i282_19 : lk (mi_ins m282) 19 = some (.iconst (-1), 1, []) := by decide +kernel
theorem i282_20 : lk (mi_ins m282) 20 = some (.invokevirtual 477, 3, []) := by decide +kernel
theorem i282_23 : lk (mi_ins m282) 23 = some (.pop, 1, []) := by decide +kernel
theorem i282_24 : lk (mi_ins m282) 24 = some (.aload_n 0, 1, []) := by decide +kernel
theorem i282_25 : lk (mi_ins m282) 25 = some (.aload_n 0, 1, []) := by decide +kernel
theorem i282_26 : lk (mi_ins m282) 26 = some (.getfield 471, 3, []) := by decide +kernel
theorem i282_29 : lk (mi_ins m282) 29 = some (.invokevirtual 61, 3, []) := by decide +kernel
theorem i282_32 : lk (mi_ins m282) 32 = some (.ireturn, 1, []) := by decide +kernel
theorem i283_0 : lk (mi_ins m283) 0 = some (.aload_n 0, 1, []) := by decide +kernel
theorem i283_1 : lk (mi_ins m283) 1 = some (.iconst 0, 1, []) := by decide +kernel
theorem i283_2 : lk (mi_ins m283) 2 = some (.putfield 51, 3, []) := by decide +kernel
theorem i283_5 : lk (mi_ins m283) 5 = some (.aload_n 0, 1, []) := by decide +kernel
theorem i283_6 : lk (mi_ins m283) 6 = some (.getfield 360, 3, []) := by decide +kernel
theorem i283_9 : lk (mi_ins m283) 9 = some (.ifnonnull 11, 3, []) := by decide +kernel
theorem i283_12 : lk (mi_ins m283) 12 = some (.aload_n 0, 1, []) := by decide +kernel
theorem i283_13 : lk (mi_ins m283) 13 = some (.iconst 1, 1, []) := by decide +kernel
theorem i283_14 : lk (mi_ins m283) 14 = some (.invokevirtual 57, 3, []) := by decide +kernel
theorem i283_17 : lk (mi_ins m283) 17 = some (.goto 11, 3, []) := by decide +kernel
theorem i283_20 : lk (mi_ins m283) 20 = some (.aload_n 0, 1, []) := by decide +kernel
theorem i283_21 : lk (mi_ins m283) 21 = some (.aload_n 0, 1, []) := by decide +kernel
theorem i283_22 : lk (mi_ins m283) 22 = some (.invokevirtual 483, 3, []) := by decide +kernel
theorem i283_25 : lk (mi_ins m283) 25 = some (.invokevirtual 61, 3, []) := by decide +kernel
theorem i283_28 : lk (mi_ins m283) 28 = some (.ireturn, 1, [0]) := by decide +kernel
theorem i284_0 : lk (mi_ins m284) 0 = some (.aload_n 0, 1, []) := by decide +kernel
theorem i284_1 : lk (mi_ins m284) 1 = some (.iconst (-1), 1, []) := by decide +kernel
theorem i284_2 : lk (mi_ins m284) 2 = some (.invokevirtual 477, 3, []) := by decide +kernel
theorem i284_5 : lk (mi_ins m284) 5 = some (.pop, 1, []) := by decide +kernel
theorem i284_6 : lk (mi_ins m284) 6 = some (.bipush (-2), 2, []) := by decide +kernel
theorem i284_8 : lk (mi_ins m284) 8 = some (.istore_n 1, 1, []) := by decide +kernel
theorem i284_9 : lk (mi_ins m284) 9 = some (.aload_n 0, 1, []) := by decide +kernel
theorem i284_10 : lk (mi_ins m284) 10 = some (.bipush (-2), 2, []) := by decide +kernel
theorem i284_12 : lk (mi_ins m284) 12 = some (.putfield 480, 3, []) := by decide +kernel
theorem i284_15 : lk (mi_ins m284) 15 = some (.iconst 0, 1, []) := by decide +kernel
theorem i284_16 : lk (mi_ins m284) 16 = some (.istore_n 2, 1, []) := by decide +kernel
theorem i284_17 : lk (mi_ins m284) 17 = some (.iload_n 2, 1, [3]) := by decide +kernel
theorem i284_18 : lk (mi_ins m284) 18 = some (.aload_n 0, 1, []) := by decide +kernel
theorem i284_19 : lk (mi_ins m284) 19 = some (.getfield 360, 3, []) := by decide +kernel
theorem i284_22 : lk (mi_ins m284) 22 = some (.getfield 302, 3, []) := by decide +kernel
theorem i284_25 : lk (mi_ins m284) 25 = some (.if_icmp .ge 81, 3, []) := by decide +kernel
theorem i284_28 : lk (mi_ins m284) 28 = some (.aload_n 0, 1, []) := by decide +kernel
theorem i284_29 : lk (mi_ins m284) 29 = some (.getfield 465, 3, []) := by decide +kernel
theorem i284_32 : lk (mi_ins m284) 32 = some (.ifCond .le 74, 3, []) := by decide +kernel
theorem i284_35 : lk (mi_ins m284) 35 = some (.aload_n 0, 1, []) := by decide +kernel
theorem i284_36 : lk (mi_ins m284) 36 = some (.getfield 42, 3, []) := by decide +kernel
theorem i284_39 : lk (mi_ins m284) 39 = some (.iload_n 2, 1, []) := by decide +kernel
theorem i284_40 : lk (mi_ins m284) 40 = some (.iaload, 1, []) := by decide +kernel
theorem i284_41 : lk (mi_ins m284) 41 = some (.aload_n 0, 1, []) := by decide +kernel
theorem i284_42 : lk (mi_ins m284) 42 = some (.getfield 465, 3, []) := by decide +kernel
theorem i284_45 : lk (mi_ins m284) 45 = some (.aload_n 0, 1, []) := by decide +kernel
theorem i284_46 : lk (mi_ins m284) 46 = some (.getfield 42, 3, []) := by decide +kernel
theorem i284_49 : lk (mi_ins m284) 49 = some (.iload_n 2, 1, []) := by decide +kernel
theorem i284_50 : lk (mi_ins m284) 50 = some (.iaload, 1, []) := by decide +kernel
theorem i284_51 : lk (mi_ins m284) 51 = some (.isub, 1, []) := by decide +kernel
theorem i284_52 : lk (mi_ins m284) 52 = some (.if_icmp .le 12, 3, []) := by decide +kernel
theorem i284_55 : lk (mi_ins m284) 55 = some (.aload_n 0, 1, []) := by decide +kernel
theorem i284_56 : lk (mi_ins m284) 56 = some (.getfield 42, 3, []) := by decide +kernel
theorem i284_59 : lk (mi_ins m284) 59 = some (.iload_n 2, 1, []) := by decide +kernel
theorem i284_60 : lk (mi_ins m284) 60 = some (.iaload, 1, []) := by decide +kernel
theorem i284_61 : lk (mi_ins m284) 61 = some (.goto 14, 3, []) := by decide +kernel
theorem i284_64 : lk (mi_ins m284) 64 = some (.aload_n 0, 1, []) := by decide +kernel
theorem i284_65 : lk (mi_ins m284) 65 = some (.getfield 465, 3, []) := by decide +kernel
theorem i284_68 : lk (mi_ins m284) 68 = some (.aload_n 0, 1, []) := by decide +kernel
theorem i284_69 : lk (mi_ins m284) 69 = some (.getfield 42, 3, []) := by decide +kernel
theorem i284_72 : lk (mi_ins m284) 72 = some (.iload_n 2, 1, []) := by decide +kernel
theorem i284_73 : lk (mi_ins m284) 73 = some (.iaload, 1, []) := by decide +kernel
theorem i284_74 : lk (mi_ins m284) 74 = some (.isub, 1, []) := by decide +kernel
theorem i284_75 : lk (mi_ins m284) 75 = some (.istore_n 3, 1, [3]) := by decide +kernel
theorem i284_76 : lk (mi_ins m284) 76 = some (.iload_n 1, 1, []) := by decide +kernel
theorem i284_77 : lk (mi_ins m284) 77 = some (.bipush (-2), 2, []) := by decide +kernel
theorem i284_79 : lk (mi_ins m284) 79 = some (.if_icmp .eq 14, 3, []) := by decide +kernel
theorem i284_82 : lk (mi_ins m284) 82 = some (.iload_n 3, 1, []) := by decide +kernel
theorem i284_83 : lk (mi_ins m284) 83 = some (.aload_n 0, 1, []) := by decide +kernel
theorem i284_84 : lk (mi_ins m284) 84 = some (.getfield 480, 3, []) := by decide +kernel
theorem i284_87 : lk (mi_ins m284) 87 = some (.if_icmp .lt 6, 3, []) := by decide +kernel
theorem i284_90 : lk (mi_ins m284) 90 = some (.goto 10, 3, []) := by decide +kernel
theorem i284_93 : lk (mi_ins m284) 93 = some (.iload_n 2, 1, [1]) := by decide +kernel
theorem i284_94 : lk (mi_ins m284) 94 = some (.istore_n 1, 1, []) := by decide +kernel
theorem i284_95 : lk (mi_ins m284) 95 = some (.aload_n 0, 1, []) := by decide +kernel
theorem i284_96 : lk (mi_ins m284) 96 = some (.iload_n 3, 1, []) := by decide +kernel
theorem i284_97 : lk (mi_ins m284) 97 = some (.putfield 480, 3, []) := by decide +kernel
theorem i284_100 : lk (mi_ins m284) 100 = some (.iinc 2 1, 3, [3]) := by decide +kernel
theorem i284_103 : lk (mi_ins m284) 103 = some (.goto (-86), 3, []) := by decide +kernel
theorem i284_106 : lk (mi_ins m284) 106 = some (.iload_n 1, 1, [0, 2, 3]) := by decide +kernel
theorem i284_107 : lk (mi_ins m284) 107 = some (.ireturn, 1, []) := by decide +kernel
theorem i285_0 : lk (mi_ins m285) 0 = some (.aload_n 0, 1, []) := by decide +kernel
theorem i285_1 : lk (mi_ins m285) 1 = some (.iconst 0, 1, []) := by decide +kernel
theorem i285_2 : lk (mi_ins m285) 2 = some (.putfield 51, 3, []) := by decide +kernel
theorem i285_5 : lk (mi_ins m285) 5 = some (.aload_n 0, 1, []) := by decide +kernel
theorem i285_6 : lk (mi_ins m285) 6 = some (.getfield 360, 3, []) := by decide +kernel
theorem i285_9 : lk (mi_ins m285) 9 = some (.ifnonnull 9, 3, []) := by decide +kernel
theorem i285_12 : lk (mi_ins m285) 12 = some (.aload_n 0, 1, []) := by decide +kernel
theorem i285_13 : lk (mi_ins m285) 13 = some (.iconst 1, 1, []) := by decide +kernel
theorem i285_14 : lk (mi_ins m285) 14 = some (.invokevirtual 57, 3, []) := by decide +kernel
theorem i285_17 : lk (mi_ins m285) 17 = some (.ireturn, 1, []) := by decide +kernel
theorem i285_18 : lk (mi_ins m285) 18 = some (.aload_n 0, 1, []) := by decide +kernel
theorem i285_19 : lk (mi_ins m285) 19 = some (.invokevirtual 483, 3, []) := by decide +kernel
theorem i285_22 : lk (mi_ins m285) 22 = some (.pop, 1, []) := by decide +kernel
theorem i285_23 : lk (mi_ins m285) 23 = some (.aload_n 0, 1, []) := by decide +kernel
theorem i285_24 : lk (mi_ins m285) 24 = some (.aload_n 0, 1, []) := by decide +kernel
theorem i285_25 : lk (mi_ins m285) 25 = some (.getfield 480, 3, []) := by decide +kernel
theorem i285_28 : lk (mi_ins m285) 28 = some (.invokevirtual 61, 3, []) := by decide +kernel
theorem i285_31 : lk (mi_ins m285) 31 = some (.ireturn, 1, []) := by decide +kernel
theorem i286_0 : lk (mi_ins m286) 0 = some (.aload_n 0, 1, []) := by decide +kernel
theorem i286_1 : lk (mi_ins m286) 1 = some (.iconst 0, 1, []) := by decide +kernel
theorem i286_2 : lk (mi_ins m286) 2 = some (.putfield 51, 3, []) := by decide +kernel
theorem i286_5 : lk (mi_ins m286) 5 = some (.aload_n 0, 1, []) := by decide +kernel
theorem i286_6 : lk (mi_ins m286) 6 = some (.getfield 360, 3, []) := by decide +kernel
theorem i286_9 : lk (mi_ins m286) 9 = some (.ifnonnull 11, 3, []) := by decide +kernel
theorem i286_12 : lk (mi_ins m286) 12 = some (.aload_n 0, 1, []) := by decide +kernel
theorem i286_13 : lk (mi_ins m286) 13 = some (.iconst 1, 1, []) := by decide +kernel
theorem i286_14 : lk (mi_ins m286) 14 = some (.invokevirtual 57, 3, []) := by decide +kernel
theorem i286_17 : lk (mi_ins m286) 17 = some (.goto 12, 3, []) := by decide +kernel
theorem i286_20 : lk (mi_ins m286) 20 = some (.aload_n 0, 1, []) := by decide +kernel
theorem i286_21 : lk (mi_ins m286) 21 = some (.aload_n 0, 1, []) := by decide +kernel
theorem i286_22 : lk (mi_ins m286) 22 = some (.iconst 0, 1, []) := by decide +kernel
theorem i286_23 : lk (mi_ins m286) 23 = some (.invokevirtual 474, 3, []) := by decide +kernel
theorem i286_26 : lk (mi_ins m286) 26 = some (.invokevirtual 61, 3, []) := by decide +kernel
theorem i286_29 : lk (mi_ins m286) 29 = some (.ireturn, 1, [0]) := by decide +kernel
theorem i287_0 : lk (mi_ins m287) 0 = some (.aload_n 0, 1, []) := by decide +kernel
theorem i287_1 : lk (mi_ins m287) 1 = some (.iconst 0, 1, []) := by decide +kernel
theorem i287_2 : lk (mi_ins m287) 2 = some (.putfield 51, 3, []) := by decide +kernel
theorem i287_5 : lk (mi_ins m287) 5 = some (.aload_n 0, 1, []) := by decide +kernel
theorem i287_6 : lk (mi_ins m287) 6 = some (.getfield 360, 3, []) := by decide +kernel
theorem i287_9 : lk (mi_ins m287) 9 = some (.ifnonnull 9, 3, []) := by decide +kernel
theorem i287_12 : lk (mi_ins m287) 12 = some (.aload_n 0, 1, []) := by decide +kernel
theorem i287_13 : lk (mi_ins m287) 13 = some (.iconst 1, 1, []) := by decide +kernel
theorem i287_14 : lk (mi_ins m287) 14 = some (.invokevirtual 57, 3, []) := by decide +kernel
theorem i287_17 : lk (mi_ins m287) 17 = some (.ireturn, 1, []) := by decide +kernel
theorem i287_18 : lk (mi_ins m287) 18 = some (.iload_n 1, 1, []) := by decide +kernel
theorem i287_19 : lk (mi_ins m287) 19 = some (.iconst 0, 1, []) := by decide +kernel
theorem i287_20 : lk (mi_ins m287) 20 = some (.iconst 4, 1, []) := by decide +kernel
theorem i287_21 : lk (mi_ins m287) 21 = some (.invokestatic 130, 3, []) := by decide +kernel
theorem i287_24 : lk (mi_ins m287) 24 = some (.ifCond .eq 15, 3, []) := by decide +kernel
theorem i287_27 : lk (mi_ins m287) 27 = some (.aload_n 0, 1, []) := by decide +kernel
theorem i287_28 : lk (mi_ins m287) 28 = some (.aload_n 0, 1, []) := by decide +kernel
theorem i287_29 : lk (mi_ins m287) 29 = some (.iload_n 1, 1, []) := by decide +kernel
theorem i287_30 : lk (mi_ins m287) 30 = some (.invokevirtual 495, 3, []) := by decide +kernel
theorem i287_33 : lk (mi_ins m287) 33 = some (.invokevirtual 61, 3, []) := by decide +kernel
theorem i287_36 : lk (mi_ins m287) 36 = some (.goto 8, 3, []) := by decide +kernel
theorem i287_39 : lk (mi_ins m287) 39 = some (.aload_n 0, 1, []) := by decide +kernel
theorem i287_40 : lk (mi_ins m287) 40 = some (.iconst 2, 1, []) := by decide +kernel
theorem i287_41 : lk (mi_ins m287) 41 = some (.invokevirtual 57, 3, []) := by decide +kernel
theorem i287_44 : lk (mi_ins m287) 44 = some (.ireturn, 1, [0, 1]) := by decide +kernel
theorem i288_0 : lk (mi_ins m288) 0 = some (.aload_n 0, 1, []) := by decide +kernel
theorem i288_1 : lk (mi_ins m288) 1 = some (.iload_n 1, 1, []) := by decide +kernel
theorem i288_2 : lk (mi_ins m288) 2 = some (.invokevirtual 492, 3, []) := by decide +kernel
theorem i288_5 : lk (mi_ins m288) 5 = some (.aload_n 0, 1, []) := by decide +kernel
theorem i288_6 : lk (mi_ins m288) 6 = some (.getfield 45, 3, []) := by decide +kernel
theorem i288_9 : lk (mi_ins m288) 9 = some (.iconst 0, 1, []) := by decide +kernel
theorem i288_10 : lk (mi_ins m288) 10 = some (.iaload, 1, []) := by decide +kernel
theorem i288_11 : lk (mi_ins m288) 11 = some (.istore_n 2, 1, []) := by decide +kernel
theorem i288_12 : lk (mi_ins m288) 12 = some (.iconst 1, 1, []) := by decide +kernel
theorem i288_13 : lk (mi_ins m288) 13 = some (.istore_n 3, 1, []) := by decide +kernel
theorem i288_14 : lk (mi_ins m288) 14 = some (.iload_n 1, 1, []) := by decide +kernel
theorem i288_15 : lk (mi_ins m288) 15 = some (.ifCond .le 35, 3, []) := by decide +kernel
theorem i288_18 : lk (mi_ins m288) 18 = some (.iload_n 3, 1, []) := by decide +kernel
theorem i288_19 : lk (mi_ins m288) 19 = some (.aload_n 0, 1, []) := by decide +kernel
theorem i288_20 : lk (mi_ins m288) 20 = some (.iconst 0, 1, []) := by decide +kernel
theorem i288_21 : lk (mi_ins m288) 21 = some (.invokevirtual 486, 3, []) := by decide +kernel
theorem i288_24 : lk (mi_ins m288) 24 = some (.if_icmp .ge 26, 3, []) := by decide +kernel
theorem i288_27 : lk (mi_ins m288) 27 = some (.aload_n 0, 1, []) := by decide +kernel
theorem i288_28 : lk (mi_ins m288) 28 = some (.getfield 45, 3, []) := by decide +kernel
theorem i288_31 : lk (mi_ins m288) 31 = some (.iload_n 3, 1, []) := by decide +kernel
theorem i288_32 : lk (mi_ins m288) 32 = some (.iaload, 1, []) := by decide +kernel
theorem i288_33 : lk (mi_ins m288) 33 = some (.iload_n 2, 1, []) := by decide +kernel
theorem i288_34 : lk (mi_ins m288) 34 = some (.if_icmp .ge 10, 3, []) := by decide +kernel
theorem i288_37 : lk (mi_ins m288) 37 = some (.aload_n 0, 1, []) := by decide +kernel
theorem i288_38 : lk (mi_ins m288) 38 = some (.getfield 45, 3, []) := by decide +kernel
theorem i288_41 : lk (mi_ins m288) 41 = some (.iload_n 3, 1, []) := by decide +kernel
theorem i288_42 : lk (mi_ins m288) 42 = some (.iaload, 1, []) := by decide +kernel
theorem i288_43 : lk (mi_ins m288) 43 = some (.istore_n 2, 1, []) := by decide +kernel
theorem i288_44 : lk (mi_ins m288) 44 = some (.iinc 3 1, 3, []) := by decide +kernel
theorem i288_47 : lk (mi_ins m288) 47 = some (.goto (-33), 3, []) := by decide +kernel
theorem i288_50 : lk (mi_ins m288) 50 = some (.iload_n 2, 1, [0, 1, 3]) := by decide +kernel
theorem i288_51 : lk (mi_ins m288) 51 = some (.ireturn, 1, []) := by decide +kernel
theorem i289_0 : lk (mi_ins m289) 0 = some (.iconst 1, 1, []) := by decide +kernel
theorem i289_1 : lk (mi_ins m289) 1 = some (.istore_n 2, 1, []) := by decide +kernel
theorem i289_2 : lk (mi_ins m289) 2 = some (.iconst 0, 1, []) := by decide +kernel
theorem i289_3 : lk (mi_ins m289) 3 = some (.istore_n 3, 1, []) := by decide +kernel
theorem i289_4 : lk (mi_ins m289) 4 = some (.iload_n 3, 1, [4, 5, 6, 7]) := by decide +kernel
theorem i289_5 : lk (mi_ins m289) 5 = some (.iload_n 1, 1, []) := by decide +kernel
theorem i289_6 : lk (mi_ins m289) 6 = some (.if_icmp .ge 17, 3, []) := by decide +kernel
theorem i289_9 : lk (mi_ins m289) 9 = some (.iload_n 2, 1, []) := by decide +kernel
theorem i289_10 : lk (mi_ins m289) 10 = some (.aload_n 0, 1, []) := by decide +kernel
theorem i289_11 : lk (mi_ins m289) 11 = some (.iload_n 3, 1, []) := by decide +kernel
theorem i289_12 : lk (mi_ins m289) 12 = some (.invokevirtual 486, 3, []) := by decide +kernel
theorem i289_15 : lk (mi_ins m289) 15 = some (.imul, 1, []) := by decide +kernel
theorem i289_16 : lk (mi_ins m289) 16 = some (.istore_n 2, 1, []) := by decide +kernel
theorem i289_17 : lk (mi_ins m289) 17 = some (.iinc 3 1, 3, []) := by decide +kernel
theorem i289_20 : lk (mi_ins m289) 20 = some (.goto (-16), 3, []) := by decide +kernel
theorem i289_23 : lk (mi_ins m289) 23 = some (.iconst 0, 1, [3, 4, 5, 6, 7]) := by decide +kernel
theorem i289_24 : lk (mi_ins m289) 24 = some (.istore_n 3, 1, []) := by decide +kernel
theorem i289_25 : lk (mi_ins m289) 25 = some (.iload_n 3, 1, [4, 5, 6, 7]) := by decide +kernel
theorem i289_26 : lk (mi_ins m289) 26 = some (.iload_n 2, 1, []) := by decide +kernel
theorem i289_27 : lk (mi_ins m289) 27 = some (.if_icmp .ge 66, 3, []) := by decide +kernel
theorem i289_30 : lk (mi_ins m289) 30 = some (.iload_n 3, 1, []) := by decide +kernel
theorem i289_31 : lk (mi_ins m289) 31 = some (.istore 4, 2, []) := by decide +kernel
theorem i289_33 : lk (mi_ins m289) 33 = some (.iload_n 1, 1, []) := by decide +kernel
theorem i289_34 : lk (mi_ins m289) 34 = some (.iconst 1, 1, []) := by decide +kernel
theorem i289_35 : lk (mi_ins m289) 35 = some (.isub, 1, []) := by decide +kernel
theorem i289_36 : lk (mi_ins m289) 36 = some (.istore 5, 2, []) := by decide +kernel
theorem i289_38 : lk (mi_ins m289) 38 = some (.iload 5, 2, [6, 7]) := by decide +kernel
theorem i289_40 : lk (mi_ins m289) 40 = some (.ifCond .lt 36, 3, []) := by decide +kernel
theorem i289_43 : lk (mi_ins m289) 43 = some (.aload_n 0, 1, []) := by decide +kernel
theorem i289_44 : lk (mi_ins m289) 44 = some (.getfield 48, 3, []) := by decide +kernel
theorem i289_47 : lk (mi_ins m289) 47 = some (.iload 5, 2, []) := by decide +kernel
theorem i289_49 : lk (mi_ins m289) 49 = some (.iload 4, 2, []) := by decide +kernel
theorem i289_51 : lk (mi_ins m289) 51 = some (.aload_n 0, 1, []) := by decide +kernel
theorem i289_52 : lk (mi_ins m289) 52 = some (.iload 5, 2, []) := by decide +kernel
theorem i289_54 : lk (mi_ins m289) 54 = some (.invokevirtual 486, 3, []) := by decide +kernel
theorem i289_57 : lk (mi_ins m289) 57 = some (.irem, 1, []) := by decide +kernel
theorem i289_58 : lk (mi_ins m289) 58 = some (.iastore, 1, []) := by decide +kernel
theorem i289_59 : lk (mi_ins m289) 59 = some (.iload 4, 2, []) := by decide +kernel
theorem i289_61 : lk (mi_ins m289) 61 = some (.aload_n 0, 1, []) := by decide +kernel
theorem i289_62 : lk (mi_ins m289) 62 = some (.iload 5, 2, []) := by decide +kernel
theorem i289_64 : lk (mi_ins m289) 64 = some (.invokevirtual 486, 3, []) := by decide +kernel
theorem i289_67 : lk (mi_ins m289) 67 = some (.idiv, 1, []) := by decide +kernel
theorem i289_68 : lk (mi_ins m289) 68 = some (.istore 4, 2, []) := by decide +kernel
theorem i289_70 : lk (mi_ins m289) 70 = some (.iinc 5 (-1), 3, []) := by decide +kernel
theorem i289_73 : lk (mi_ins m289) 73 = some (.goto (-35), 3, []) := by decide +kernel
theorem i289_76 : lk (mi_ins m289) 76 = some (.aload_n 0, 1, [4, 5, 6, 7]) := by decide +kernel
theorem i289_77 : lk (mi_ins m289) 77 = some (.getfield 45, 3, []) := by decide +kernel
theorem i289_80 : lk (mi_ins m289) 80 = some (.iload_n 3, 1, []) := by decide +kernel
theorem i289_81 : lk (mi_ins m289) 81 = some (.aload_n 0, 1, []) := by decide +kernel
theorem i289_82 : lk (mi_ins m289) 82 = some (.iload_n 1, 1, []) := by decide +kernel
theorem i289_83 : lk (mi_ins m289) 83 = some (.invokevirtual 489, 3, []) := by decide +kernel
theorem i289_86 : lk (mi_ins m289) 86 = some (.iastore, 1, []) := by decide +kernel
theorem i289_87 : lk (mi_ins m289) 87 = some (.iinc 3 1, 3, []) := by decide +kernel
theorem i289_90 : lk (mi_ins m289) 90 = some (.goto (-65), 3, []) := by decide +kernel
theorem i289_93 : lk (mi_ins m289) 93 = some (.iload_n 1, 1, [3, 4, 5, 6, 7]) := by decide +kernel
theorem i289_94 : lk (mi_ins m289) 94 = some (.iconst 1, 1, []) := by decide +kernel
theorem i289_95 : lk (mi_ins m289) 95 = some (.isub, 1, []) := by decide +kernel
theorem i289_96 : lk (mi_ins m289) 96 = some (.istore_n 3, 1, []) := by decide +kernel
theorem i289_97 : lk (mi_ins m289) 97 = some (.iload_n 3, 1, [1, 4, 5, 6, 7]) := by decide +kernel
theorem i289_98 : lk (mi_ins m289) 98 = some (.ifCond .le 120, 3, []) := by decide +kernel
theorem i289_101 : lk (mi_ins m289) 101 = some (.iload_n 2, 1, []) := by decide +kernel
theorem i289_102 : lk (mi_ins m289) 102 = some (.aload_n 0, 1, []) := by decide +kernel
theorem i289_103 : lk (mi_ins m289) 103 = some (.iload_n 3, 1, []) := by decide +kernel
theorem i289_104 : lk (mi_ins m289) 104 = some (.invokevirtual 486, 3, []) := by decide +kernel
theorem i289_107 : lk (mi_ins m289) 107 = some (.idiv, 1, []) := by decide +kernel
theorem i289_108 : lk (mi_ins m289) 108 = some (.istore_n 2, 1, []) := by decide +kernel
theorem i289_109 : lk (mi_ins m289) 109 = some (.iconst 0, 1, []) := by decide +kernel
theorem i289_110 : lk (mi_ins m289) 110 = some (.istore 4, 2, []) := by decide +kernel
theorem i289_112 : lk (mi_ins m289) 112 = some (.iload 4, 2, [1, 5, 6, 7]) := by decide +kernel
theorem i289_114 : lk (mi_ins m289) 114 = some (.iload_n 2, 1, []) := by decide +kernel
theorem i289_115 : lk (mi_ins m289) 115 = some (.if_icmp .ge 97, 3, []) := by decide +kernel
theorem i289_118 : lk (mi_ins m289) 118 = some (.aload_n 0, 1, []) := by decide +kernel
theorem i289_119 : lk (mi_ins m289) 119 = some (.getfield 45, 3, []) := by decide +kernel
theorem i289_122 : lk (mi_ins m289) 122 = some (.iload 4, 2, []) := by decide +kernel
theorem i289_124 : lk (mi_ins m289) 124 = some (.aload_n 0, 1, []) := by decide +kernel
theorem i289_125 : lk (mi_ins m289) 125 = some (.iload_n 3, 1, []) := by decide +kernel
theorem i289_126 : lk (mi_ins m289) 126 = some (.invokevirtual 486, 3, []) := by decide +kernel
theorem i289_129 : lk (mi_ins m289) 129 = some (.imul, 1, []) := by decide +kernel
theorem i289_130 : lk (mi_ins m289) 130 = some (.iaload, 1, []) := by decide +kernel
theorem i289_131 : lk (mi_ins m289) 131 = some (.istore 5, 2, []) := by decide +kernel
theorem i289_133 : lk (mi_ins m289) 133 = some (.iconst 1, 1, []) := by decide +kernel
theorem i289_134 : lk (mi_ins m289) 134 = some (.istore 6, 2, []) := by decide +kernel
theorem i289_136 : lk (mi_ins m289) 136 = some (.iload 6, 2, [1, 7]) := by decide +kernel
theorem i289_138 : lk (mi_ins m289) 138 = some (.aload_n 0, 1, []) := by decide +kernel
theorem i289_139 : lk (mi_ins m289) 139 = some (.iload_n 3, 1, []) := by decide +kernel
theorem i289_140 : lk (mi_ins m289) 140 = some (.invokevirtual 486, 3, []) := by decide +kernel
theorem i289_143 : lk (mi_ins m289) 143 = some (.if_icmp .ge 54, 3, []) := by decide +kernel
theorem i289_146 : lk (mi_ins m289) 146 = some (.aload_n 0, 1, []) := by decide +kernel
theorem i289_147 : lk (mi_ins m289) 147 = some (.getfield 45, 3, []) := by decide +kernel
theorem i289_150 : lk (mi_ins m289) 150 = some (.iload 4, 2, []) := by decide +kernel
theorem i289_152 : lk (mi_ins m289) 152 = some (.aload_n 0, 1, []) := by decide +kernel
theorem i289_153 : lk (mi_ins m289) 153 = some (.iload_n 3, 1, []) := by decide +kernel
theorem i289_154 : lk (mi_ins m289) 154 = some (.invokevirtual 486, 3, []) := by decide +kernel
theorem i289_157 : lk (mi_ins m289) 157 = some (.imul, 1, []) := by decide +kernel
theorem i289_158 : lk (mi_ins m289) 158 = some (.iload 6, 2, []) := by decide +kernel
theorem i289_160 : lk (mi_ins m289) 160 = some (.iadd, 1, []) := by decide +kernel
theorem i289_161 : lk (mi_ins m289) 161 = some (.iaload, 1, []) := by decide +kernel
theorem i289_162 : lk (mi_ins m289) 162 = some (.istore 7, 2, []) := by decide +kernel
theorem i289_164 : lk (mi_ins m289) 164 = some (.iload_n 3, 1, []) := by decide +kernel
theorem i289_165 : lk (mi_ins m289) 165 = some (.iconst 2, 1, []) := by decide +kernel
theorem i289_166 : lk (mi_ins m289) 166 = some (.irem, 1, []) := by decide +kernel
theorem i289_167 : lk (mi_ins m289) 167 = some (.ifCond .ne 13, 3, []) := by decide +kernel
theorem i289_170 : lk (mi_ins m289) 170 = some (.iload 7, 2, []) := by decide +kernel
theorem i289_172 : lk (mi_ins m289) 172 = some (.iload 5, 2, []) := by decide +kernel
theorem i289_174 : lk (mi_ins m289) 174 = some (.if_icmp .ge 17, 3, []) := by decide +kernel
theorem i289_177 : lk (mi_ins m289) 177 = some (.goto 10, 3, []) := by decide +kernel
theorem i289_180 : lk (mi_ins m289) 180 = some (.iload 7, 2, []) := by decide +kernel
theorem i289_182 : lk (mi_ins m289) 182 = some (.iload 5, 2, []) := by decide +kernel
theorem i289_184 : lk (mi_ins m289) 184 = some (.if_icmp .le 7, 3, []) := by decide +kernel
theorem i289_187 : lk (mi_ins m289) 187 = some (.iload 7, 2, [1, 5]) := by decide +kernel
theorem i289_189 : lk (mi_ins m289) 189 = some (.istore 5, 2, []) := by decide +kernel
theorem i289_191 : lk (mi_ins m289) 191 = some (.iinc 6 1, 3, [1, 7]) := by decide +kernel
theorem i289_194 : lk (mi_ins m289) 194 = some (.goto (-58), 3, []) := by decide +kernel
theorem i289_197 : lk (mi_ins m289) 197 = some (.aload_n 0, 1, [1, 6, 7]) := by decide +kernel
theorem i289_198 : lk (mi_ins m289) 198 = some (.getfield 45, 3, []) := by decide +kernel
theorem i289_201 : lk (mi_ins m289) 201 = some (.iload 4, 2, []) := by decide +kernel
theorem i289_203 : lk (mi_ins m289) 203 = some (.iload 5, 2, []) := by decide +kernel
theorem i289_205 : lk (mi_ins m289) 205 = some (.iastore, 1, []) := by decide +kernel
theorem i289_206 : lk (mi_ins m289) 206 = some (.iinc 4 1, 3, []) := by decide +kernel
theorem i289_209 : lk (mi_ins m289) 209 = some (.goto (-97), 3, []) := by decide +kernel
theorem i289_212 : lk (mi_ins m289) 212 = some (.iinc 3 (-1), 3, [1, 4, 5, 6, 7]) := by decide +kernel
theorem i289_215 : lk (mi_ins m289) 215 = some (.goto (-118), 3, []) := by decide +kernel
theorem i289_218 : lk (mi_ins m289) 218 = some (.return_, 1, [0, 1, 2, 3, 4, 5, 6, 7]) := by decide +kernel
theorem i290_0 : lk (mi_ins m290) 0 = some (.iload_n 1, 1, []) := by decide +kernel
theorem i290_1 : lk (mi_ins m290) 1 = some (.iconst 2, 1, []) := by decide +kernel
theorem i290_2 : lk (mi_ins m290) 2 = some (.irem, 1, []) := by decide +kernel
theorem i290_3 : lk (mi_ins m290) 3 = some (.ifCond .ne 15, 3, []) := by decide +kernel
theorem i290_6 : lk (mi_ins m290) 6 = some (.aload_n 0, 1, []) := by decide +kernel
theorem i290_7 : lk (mi_ins m290) 7 = some (.getfield 360, 3, []) := by decide +kernel
theorem i290_10 : lk (mi_ins m290) 10 = some (.getfield 266, 3, []) := by decide +kernel
theorem i290_13 : lk (mi_ins m290) 13 = some (.iconst 1, 1, []) := by decide +kernel
theorem i290_14 : lk (mi_ins m290) 14 = some (.iadd, 1, []) := by decide +kernel
theorem i290_15 : lk (mi_ins m290) 15 = some (.goto 10, 3, []) := by decide +kernel
theorem i290_18 : lk (mi_ins m290) 18 = some (.aload_n 0, 1, []) := by decide +kernel
theorem i290_19 : lk (mi_ins m290) 19 = some (.getfield 360, 3, []) := by decide +kernel
theorem i290_22 : lk (mi_ins m290) 22 = some (.getfield 209, 3, []) := by decide +kernel
theorem i290_25 : lk (mi_ins m290) 25 = some (.ireturn, 1, [0, 1]) := by decide +kernel
theorem i291_0 : lk (mi_ins m291) 0 = some (.aload_n 0, 1, []) := by decide +kernel
theorem i291_1 : lk (mi_ins m291) 1 = some (.invokevirtual 407, 3, []) := by decide +kernel
theorem i291_4 : lk (mi_ins m291) 4 = some (.iconst 0, 1, []) := by decide +kernel
theorem i291_5 : lk (mi_ins m291) 5 = some (.istore_n 2, 1, []) := by decide +kernel
theorem i291_6 : lk (mi_ins m291) 6 = some (.iload_n 2, 1, []) := by decide +kernel
theorem i291_7 : lk (mi_ins m291) 7 = some (.iload_n 1, 1, []) := by decide +kernel
theorem i291_8 : lk (mi_ins m291) 8 = some (.if_icmp .ge 67, 3, []) := by decide +kernel
theorem i291_11 : lk (mi_ins m291) 11 = some (.iload_n 2, 1, []) := by decide +kernel
theorem i291_12 : lk (mi_ins m291) 12 = some (.iconst 2, 1, []) := by decide +kernel
theorem i291_13 : lk (mi_ins m291) 13 = some (.irem, 1, []) := by decide +kernel
theorem i291_14 : lk (mi_ins m291) 14 = some (.iconst 1, 1, []) := by decide +kernel
theorem i291_15 : lk (mi_ins m291) 15 = some (.if_icmp .ne 25, 3, []) := by decide +kernel
theorem i291_18 : lk (mi_ins m291) 18 = some (.aload_n 0, 1, []) := by decide +kernel
theorem i291_19 : lk (mi_ins m291) 19 = some (.getfield 21, 3, []) := by decide +kernel
theorem i291_22 : lk (mi_ins m291) 22 = some (.aload_n 0, 1, []) := by decide +kernel
theorem i291_23 : lk (mi_ins m291) 23 = some (.getfield 48, 3, []) := by decide +kernel
theorem i291_26 : lk (mi_ins m291) 26 = some (.iload_n 2, 1, []) := by decide +kernel
theorem i291_27 : lk (mi_ins m291) 27 = some (.iaload, 1, []) := by decide +kernel
theorem i291_28 : lk (mi_ins m291) 28 = some (.iconst 3, 1, []) := by decide +kernel
theorem i291_29 : lk (mi_ins m291) 29 = some (.invokestatic 371, 3, []) := by decide +kernel
theorem i291_32 : lk (mi_ins m291) 32 = some (.dup2, 1, []) := by decide +kernel
theorem i291_33 : lk (mi_ins m291) 33 = some (.iaload, 1, []) := by decide +kernel
theorem i291_34 : lk (mi_ins m291) 34 = some (.iconst 1, 1, []) := by decide +kernel
theorem i291_35 : lk (mi_ins m291) 35 = some (.iadd, 1, []) := by decide +kernel
theorem i291_36 : lk (mi_ins m291) 36 = some (.iastore, 1, []) := by decide +kernel
theorem i291_37 : lk (mi_ins m291) 37 = some (.goto 32, 3, []) := by decide +kernel
theorem i291_40 : lk (mi_ins m291) 40 = some (.aload_n 0, 1, []) := by decide +kernel
theorem i291_41 : lk (mi_ins m291) 41 = some (.getfield 48, 3, []) := by decide +kernel
theorem i291_44 : lk (mi_ins m291) 44 = some (.iload_n 2, 1, []) := by decide +kernel
theorem i291_45 : lk (mi_ins m291) 45 = some (.iaload, 1, []) := by decide +kernel
theorem i291_46 : lk (mi_ins m291) 46 = some (.ifCond .le 23, 3, []) := by decide +kernel
theorem i291_49 : lk (mi_ins m291) 49 = some (.aload_n 0, 1, []) := by decide +kernel
theorem i291_50 : lk (mi_ins m291) 50 = some (.getfield 21, 3, []) := by decide +kernel
theorem i291_53 : lk (mi_ins m291) 53 = some (.bipush 28, 2, []) := by decide +kernel
theorem i291_55 : lk (mi_ins m291) 55 = some (.dup2, 1, []) := by decide +kernel
theorem i291_56 : lk (mi_ins m291) 56 = some (.iaload, 1, []) := by decide +kernel
theorem i291_57 : lk (mi_ins m291) 57 = some (.iconst 1, 1, []) := by decide +kernel
theorem i291_58 : lk (mi_ins m291) 58 = some (.aload_n 0, 1, []) := by decide +kernel
theorem i291_59 : lk (mi_ins m291) 59 = some (.getfield 48, 3, []) := by decide +kernel
theorem i291_62 : lk (mi_ins m291) 62 = some (.iload_n 2, 1, []) := by decide +kernel
theorem i291_63 : lk (mi_ins m291) 63 = some (.iaload, 1, []) := by decide +kernel
theorem i291_64 : lk (mi_ins m291) 64 = some (.iconst 1, 1, []) := by decide +kernel
theorem i291_65 : lk (mi_ins m291) 65 = some (.isub, 1, []) := by decide +kernel
theorem i291_66 : lk (mi_ins m291) 66 = some (.ishl, 1, []) := by decide +kernel
theorem i291_67 : lk (mi_ins m291) 67 = some (.ior, 1, []) := by decide +kernel
theorem i291_68 : lk (mi_ins m291) 68 = some (.iastore, 1, []) := by decide +kernel
theorem i291_69 : lk (mi_ins m291) 69 = some (.iinc 2 1, 3, []) := by decide +kernel
theorem i291_72 : lk (mi_ins m291) 72 = some (.goto (-66), 3, []) := by decide +kernel
theorem i291_75 : lk (mi_ins m291) 75 = some (.aload_n 0, 1, [1, 2]) := by decide +kernel
theorem i291_76 : lk (mi_ins m291) 76 = some (.getfield 360, 3, []) := by decide +kernel
theorem i291_79 : lk (mi_ins m291) 79 = some (.getfield 209, 3, []) := by decide +kernel
theorem i291_82 : lk (mi_ins m291) 82 = some (.aload_n 0, 1, []) := by decide +kernel
theorem i291_83 : lk (mi_ins m291) 83 = some (.invokevirtual 419, 3, []) := by decide +kernel
theorem i291_86 : lk (mi_ins m291) 86 = some (.invokestatic 392, 3, []) := by decide +kernel
theorem i291_89 : lk (mi_ins m291) 89 = some (.isub, 1, []) := by decide +kernel
theorem i291_90 : lk (mi_ins m291) 90 = some (.ireturn, 1, []) := by decide +kernel
theorem i292_0 : lk (mi_ins m292) 0 = some (.aload_n 0, 1, []) := by decide +kernel
theorem i292_1 : lk (mi_ins m292) 1 = some (.iconst 0, 1, []) := by decide +kernel
theorem i292_2 : lk (mi_ins m292) 2 = some (.putfield 51, 3, []) := by decide +kernel
theorem i292_5 : lk (mi_ins m292) 5 = some (.aload_n 0, 1, []) := by decide +kernel
theorem i292_6 : lk (mi_ins m292) 6 = some (.getfield 360, 3, []) := by decide +kernel
theorem i292_9 : lk (mi_ins m292) 9 = some (.ifnonnull 9, 3, []) := by decide +kernel
theorem i292_12 : lk (mi_ins m292) 12 = some (.aload_n 0, 1, []) := by decide +kernel
theorem i292_13 : lk (mi_ins m292) 13 = some (.iconst 1, 1, []) := by decide +kernel
theorem i292_14 : lk (mi_ins m292) 14 = some (.invokevirtual 57, 3, []) := by decide +kernel
theorem i292_17 : lk (mi_ins m292) 17 = some (.ireturn, 1, []) := by decide +kernel
theorem i292_18 : lk (mi_ins m292) 18 = some (.iload_n 1, 1, []) := by decide +kernel
theorem i292_19 : lk (mi_ins m292) 19 = some (.iconst 1, 1, []) := by decide +kernel
theorem i292_20 : lk (mi_ins m292) 20 = some (.iconst 4, 1, []) := by decide +kernel
theorem i292_21 : lk (mi_ins m292) 21 = some (.invokestatic 130, 3, []) := by decide +kernel
theorem i292_24 : lk (mi_ins m292) 24 = some (.ifCond .ne 9, 3, []) := by decide +kernel
theorem i292_27 : lk (mi_ins m292) 27 = some (.aload_n 0, 1, []) := by decide +kernel
theorem i292_28 : lk (mi_ins m292) 28 = some (.iconst 2, 1, []) := by decide +kernel
theorem i292_29 : lk (mi_ins m292) 29 = some (.invokevirtual 57, 3, []) := by decide +kernel
theorem i292_32 : lk (mi_ins m292) 32 = some (.ireturn, 1, []) := by decide +kernel
theorem i292_33 : lk (mi_ins m292) 33 = some (.aload_n 0, 1, []) := by decide +kernel
theorem i292_34 : lk (mi_ins m292) 34 = some (.iload_n 1, 1, []) := by decide +kernel
theorem i292_35 : lk (mi_ins m292) 35 = some (.invokevirtual 495, 3, []) := by decide +kernel
theorem i292_38 : lk (mi_ins m292) 38 = some (.istore_n 2, 1, []) := by decide +kernel
theorem i292_39 : lk (mi_ins m292) 39 = some (.iconst 0, 1, []) := by decide +kernel
theorem i292_40 : lk (mi_ins m292) 40 = some (.istore_n 3, 1, []) := by decide +kernel
theorem i292_41 : lk (mi_ins m292) 41 = some (.aload_n 0, 1, [1]) := by decide +kernel
theorem i292_42 : lk (mi_ins m292) 42 = some (.getfield 45, 3, []) := by decide +kernel
theorem i292_45 : lk (mi_ins m292) 45 = some (.iload_n 3, 1, []) := by decide +kernel
theorem i292_46 : lk (mi_ins m292) 46 = some (.iaload, 1, []) := by decide +kernel
theorem i292_47 : lk (mi_ins m292) 47 = some (.iload_n 2, 1, []) := by decide +kernel
theorem i292_48 : lk (mi_ins m292) 48 = some (.if_icmp .eq 9, 3, []) := by decide +kernel
theorem i292_51 : lk (mi_ins m292) 51 = some (.iinc 3 1, 3, []) := by decide +kernel
theorem i292_54 : lk (mi_ins m292) 54 = some (.goto (-13), 3, []) := by decide +kernel
theorem i292_57 : lk (mi_ins m292) 57 = some (.aload_n 0, 1, [1, 2]) := by decide +kernel
theorem i292_58 : lk (mi_ins m292) 58 = some (.iload_n 3, 1, []) := by decide +kernel
theorem i292_59 : lk (mi_ins m292) 59 = some (.ifCond .ne 8, 3, []) := by decide +kernel
theorem i292_62 : lk (mi_ins m292) 62 = some (.bipush (-2), 2, []) := by decide +kernel
theorem i292_64 : lk (mi_ins m292) 64 = some (.goto 6, 3, []) := by decide +kernel
theorem i292_67 : lk (mi_ins m292) 67 = some (.iload_n 3, 1, []) := by decide +kernel
theorem i292_68 : lk (mi_ins m292) 68 = some (.iconst 1, 1, []) := by decide +kernel
theorem i292_69 : lk (mi_ins m292) 69 = some (.isub, 1, []) := by decide +kernel
theorem i292_70 : lk (mi_ins m292) 70 = some (.invokevirtual 61, 3, [0, 1, 2, 3]) := by decide +kernel
theorem i292_73 : lk (mi_ins m292) 73 = some (.ireturn, 1, []) := by decide +kernel
theorem i293_0 : lk (mi_ins m293) 0 = some (.aload_n 0, 1, []) := by decide +kernel
theorem i293_1 : lk (mi_ins m293) 1 = some (.iconst 0, 1, []) := by decide +kernel
theorem i293_2 : lk (mi_ins m293) 2 = some (.putfield 51, 3, []) := by decide +kernel
theorem i293_5 : lk (mi_ins m293) 5 = some (.aload_n 0, 1, []) := by decide +kernel
theorem i293_6 : lk (mi_ins m293) 6 = some (.iload_n 1, 1, []) := by decide +kernel
theorem i293_7 : lk (mi_ins m293) 7 = some (.iload_n 2, 1, []) := by decide +kernel
theorem i293_8 : lk (mi_ins m293) 8 = some (.invokevirtual 515, 3, []) := by decide +kernel
theorem i293_11 : lk (mi_ins m293) 11 = some (.istore 4, 2, []) := by decide +kernel
theorem i293_13 : lk (mi_ins m293) 13 = some (.iload 4, 2, []) := by decide +kernel
theorem i293_15 : lk (mi_ins m293) 15 = some (.ifCond .le 11, 3, []) := by decide +kernel
theorem i293_18 : lk (mi_ins m293) 18 = some (.aload_n 0, 1, []) := by decide +kernel
theorem i293_19 : lk (mi_ins m293) 19 = some (.iload 4, 2, []) := by decide +kernel
theorem i293_21 : lk (mi_ins m293) 21 = some (.invokevirtual 57, 3, []) := by decide +kernel
theorem i293_24 : lk (mi_ins m293) 24 = some (.i2l, 1, []) := by decide +kernel
theorem i293_25 : lk (mi_ins m293) 25 = some (.lreturn, 1, []) := by decide +kernel
theorem i293_26 : lk (mi_ins m293) 26 = some (.aload_n 0, 1, []) := by decide +kernel
theorem i293_27 : lk (mi_ins m293) 27 = some (.iload_n 1, 1, []) := by decide +kernel
theorem i293_28 : lk (mi_ins m293) 28 = some (.iload_n 2, 1, []) := by decide +kernel
theorem i293_29 : lk (mi_ins m293) 29 = some (.invokevirtual 518, 3, []) := by decide +kernel
theorem i293_32 : lk (mi_ins m293) 32 = some (.aload_n 0, 1, []) := by decide +kernel
theorem i293_33 : lk (mi_ins m293) 33 = some (.aload_n 0, 1, []) := by decide +kernel
theorem i293_34 : lk (mi_ins m293) 34 = some (.getfield 501, 3, []) := by decide +kernel
theorem i293_37 : lk (mi_ins m293) 37 = some (.aload_n 0, 1, []) := by decide +kernel
theorem i293_38 : lk (mi_ins m293) 38 = some (.getfield 498, 3, []) := by decide +kernel
theorem i293_41 : lk (mi_ins m293) 41 = some (.iload_n 3, 1, []) := by decide +kernel
theorem i293_42 : lk (mi_ins m293) 42 = some (.invokevirtual 521, 3, []) := by decide +kernel
theorem i293_45 : lk (mi_ins m293) 45 = some (.lreturn, 1, []) := by decide +kernel
theorem i294_0 : lk (mi_ins m294) 0 = some (.aload_n 0, 1, []) := by decide +kernel
theorem i294_1 : lk (mi_ins m294) 1 = some (.iload_n 1, 1, []) := by decide +kernel
theorem i294_2 : lk (mi_ins m294) 2 = some (.invokevirtual 404, 3, []) := by decide +kernel
theorem i294_5 : lk (mi_ins m294) 5 = some (.ifCond .ne 7, 3, []) := by decide +kernel
theorem i294_8 : lk (mi_ins m294) 8 = some (.iconst 1, 1, []) := by decide +kernel
theorem i294_9 : lk (mi_ins m294) 9 = some (.goto 34, 3, []) := by decide +kernel
theorem i294_12 : lk (mi_ins m294) 12 = some (.iload_n 2, 1, []) := by decide +kernel
theorem i294_13 : lk (mi_ins m294) 13 = some (.iconst 0, 1, []) := by decide +kernel
theorem i294_14 : lk (mi_ins m294) 14 = some (.iconst 4, 1, []) := by decide +kernel
theorem i294_15 : lk (mi_ins m294) 15 = some (.invokestatic 130, 3, []) := by decide +kernel
theorem i294_18 : lk (mi_ins m294) 18 = some (.ifCond .ne 7, 3, []) := by decide +kernel
theorem i294_21 : lk (mi_ins m294) 21 = some (.iconst 2, 1, []) := by decide +kernel
theorem i294_22 : lk (mi_ins m294) 22 = some (.goto 21, 3, []) := by decide +kernel
theorem i294_25 : lk (mi_ins m294) 25 = some (.aload_n 0, 1, []) := by decide +kernel
theorem i294_26 : lk (mi_ins m294) 26 = some (.getfield 360, 3, []) := by decide +kernel
theorem i294_29 : lk (mi_ins m294) 29 = some (.getfield 261, 3, []) := by decide +kernel
theorem i294_32 : lk (mi_ins m294) 32 = some (.iload_n 1, 1, []) := by decide +kernel
theorem i294_33 : lk (mi_ins m294) 33 = some (.iaload, 1, []) := by decide +kernel
theorem i294_34 : lk (mi_ins m294) 34 = some (.iconst 1, 1, []) := by decide +kernel
theorem i294_35 : lk (mi_ins m294) 35 = some (.if_icmp .ne 7, 3, []) := by decide +kernel
theorem i294_38 : lk (mi_ins m294) 38 = some (.iconst 5, 1, []) := by decide +kernel
theorem i294_39 : lk (mi_ins m294) 39 = some (.goto 4, 3, []) := by decide +kernel
theorem i294_42 : lk (mi_ins m294) 42 = some (.iconst 0, 1, []) := by decide +kernel
theorem i294_43 : lk (mi_ins m294) 43 = some (.ireturn, 1, [0, 1, 2]) := by decide +kernel
theorem i295_0 : lk (mi_ins m295) 0 = some (.aload_n 0, 1, []) := by decide +kernel
theorem i295_1 : lk (mi_ins m295) 1 = some (.lconst 1, 1, []) := by decide +kernel
theorem i295_2 : lk (mi_ins m295) 2 = some (.putfield 498, 3, []) := by decide +kernel
theorem i295_5 : lk (mi_ins m295) 5 = some (.aload_n 0, 1, []) := by decide +kernel
theorem i295_6 : lk (mi_ins m295) 6 = some (.lconst 0, 1, []) := by decide +kernel
theorem i295_7 : lk (mi_ins m295) 7 = some (.putfield 501, 3, []) := by decide +kernel
theorem i295_10 : lk (mi_ins m295) 10 = some (.aload_n 0, 1, []) := by decide +kernel
theorem i295_11 : lk (mi_ins m295) 11 = some (.lconst 0, 1, []) := by decide +kernel
theorem i295_12 : lk (mi_ins m295) 12 = some (.putfield 504, 3, []) := by decide +kernel
theorem i295_15 : lk (mi_ins m295) 15 = some (.aload_n 0, 1, []) := by decide +kernel
theorem i295_16 : lk (mi_ins m295) 16 = some (.lconst 0, 1, []) := by decide +kernel
theorem i295_17 : lk (mi_ins m295) 17 = some (.putfield 507, 3, []) := by decide +kernel
theorem i295_20 : lk (mi_ins m295) 20 = some (.iconst 0, 1, []) := by decide +kernel
theorem i295_21 : lk (mi_ins m295) 21 = some (.istore_n 3, 1, []) := by decide +kernel
theorem i295_22 : lk (mi_ins m295) 22 = some (.iload_n 3, 1, [4, 5, 6, 7]) := by decide +kernel
theorem i295_23 : lk (mi_ins m295) 23 = some (.iload_n 2, 1, []) := by decide +kernel
theorem i295_24 : lk (mi_ins m295) 24 = some (.if_icmp .ge 21, 3, []) := by decide +kernel
theorem i295_27 : lk (mi_ins m295) 27 = some (.aload_n 0, 1, []) := by decide +kernel
theorem i295_28 : lk (mi_ins m295) 28 = some (.dup, 1, []) := by decide +kernel
theorem i295_29 : lk (mi_ins m295) 29 = some (.getfield 498, 3, []) := by decide +kernel
theorem i295_32 : lk (mi_ins m295) 32 = some (.ldc2_w 510, 3, []) := by decide +kernel
theorem i295_35 : lk (mi_ins m295) 35 = some (.lmul, 1, []) := by decide +kernel
theorem i295_36 : lk (mi_ins m295) 36 = some (.putfield 498, 3, []) := by decide +kernel
theorem i295_39 : lk (mi_ins m295) 39 = some (.iinc 3 1, 3, []) := by decide +kernel
theorem i295_42 : lk (mi_ins m295) 42 = some (.goto (-20), 3, []) := by decide +kernel
theorem i295_45 : lk (mi_ins m295) 45 = some (.iconst 0, 1, [3, 4, 5, 6, 7]) := by decide +kernel
theorem i295_46 : lk (mi_ins m295) 46 = some (.istore_n 3, 1, []) := by decide +kernel
theorem i295_47 : lk (mi_ins m295) 47 = some (.iload_n 3, 1, [4, 5, 6, 7]) := by decide +kernel
theorem i295_48 : lk (mi_ins m295) 48 = some (.iconst 1, 1, []) := by decide +kernel
theorem i295_49 : lk (mi_ins m295) 49 = some (.iload_n 2, 1, []) := by decide +kernel
theorem i295_50 : lk (mi_ins m295) 50 = some (.ishl, 1, []) := by decide +kernel
theorem i295_51 : lk (mi_ins m295) 51 = some (.if_icmp .ge 154, 3, []) := by decide +kernel
theorem i295_54 : lk (mi_ins m295) 54 = some (.lconst 1, 1, []) := by decide +kernel
theorem i295_55 : lk (mi_ins m295) 55 = some (.lstore 4, 2, []) := by decide +kernel
theorem i295_57 : lk (mi_ins m295) 57 = some (.iconst 0, 1, []) := by decide +kernel
theorem i295_58 : lk (mi_ins m295) 58 = some (.istore 6, 2, []) := by decide +kernel
theorem i295_60 : lk (mi_ins m295) 60 = some (.aload_n 0, 1, []) := by decide +kernel
theorem i295_61 : lk (mi_ins m295) 61 = some (.invokevirtual 407, 3, []) := by decide +kernel
theorem i295_64 : lk (mi_ins m295) 64 = some (.iconst 0, 1, []) := by decide +kernel
theorem i295_65 : lk (mi_ins m295) 65 = some (.istore 7, 2, []) := by decide +kernel
theorem i295_67 : lk (mi_ins m295) 67 = some (.iload 7, 2, [5]) := by decide +kernel
theorem i295_69 : lk (mi_ins m295) 69 = some (.iload_n 2, 1, []) := by decide +kernel
theorem i295_70 : lk (mi_ins m295) 70 = some (.if_icmp .ge 69, 3, []) := by decide +kernel
theorem i295_73 : lk (mi_ins m295) 73 = some (.aload_n 0, 1, []) := by decide +kernel
theorem i295_74 : lk (mi_ins m295) 74 = some (.invokevirtual 401, 3, []) := by decide +kernel
theorem i295_77 : lk (mi_ins m295) 77 = some (.lload 4, 2, []) := by decide +kernel
theorem i295_79 : lk (mi_ins m295) 79 = some (.iload_n 3, 1, []) := by decide +kernel
theorem i295_80 : lk (mi_ins m295) 80 = some (.iload 7, 2, []) := by decide +kernel
theorem i295_82 : lk (mi_ins m295) 82 = some (.invokestatic 288, 3, []) := by decide +kernel
theorem i295_85 : lk (mi_ins m295) 85 = some (.ifCond .eq 14, 3, []) := by decide +kernel
theorem i295_88 : lk (mi_ins m295) 88 = some (.aload_n 0, 1, []) := by decide +kernel
theorem i295_89 : lk (mi_ins m295) 89 = some (.getfield 360, 3, []) := by decide +kernel
theorem i295_92 : lk (mi_ins m295) 92 = some (.getfield 164, 3, []) := by decide +kernel
theorem i295_95 : lk (mi_ins m295) 95 = some (.i2l, 1, []) := by decide +kernel
theorem i295_96 : lk (mi_ins m295) 96 = some (.goto 14, 3, []) := by decide +kernel
theorem i295_99 : lk (mi_ins m295) 99 = some (.bipush 100, 2, []) := by decide +kernel
theorem i295_101 : lk (mi_ins m295) 101 = some (.aload_n 0, 1, []) := by decide +kernel
theorem i295_102 : lk (mi_ins m295) 102 = some (.getfield 360, 3, []) := by decide +kernel
theorem i295_105 : lk (mi_ins m295) 105 = some (.getfield 164, 3, []) := by decide +kernel
theorem i295_108 : lk (mi_ins m295) 108 = some (.isub, 1, []) := by decide +kernel
theorem i295_109 : lk (mi_ins m295) 109 = some (.i2l, 1, []) := by decide +kernel
theorem i295_110 : lk (mi_ins m295) 110 = some (.lmul, 1, [4, 5]) := by decide +kernel
theorem i295_111 : lk (mi_ins m295) 111 = some (.lstore 4, 2, []) := by decide +kernel
theorem i295_113 : lk (mi_ins m295) 113 = some (.iload_n 3, 1, []) := by decide +kernel
theorem i295_114 : lk (mi_ins m295) 114 = some (.iload 7, 2, []) := by decide +kernel
theorem i295_116 : lk (mi_ins m295) 116 = some (.invokestatic 288, 3, []) := by decide +kernel
theorem i295_119 : lk (mi_ins m295) 119 = some (.ifCond .eq 14, 3, []) := by decide +kernel
theorem i295_122 : lk (mi_ins m295) 122 = some (.aload_n 0, 1, []) := by decide +kernel
theorem i295_123 : lk (mi_ins m295) 123 = some (.iload_n 1, 1, []) := by decide +kernel
theorem i295_124 : lk (mi_ins m295) 124 = some (.invokevirtual 512, 3, []) := by decide +kernel
theorem i295_127 : lk (mi_ins m295) 127 = some (.ifCond .eq 6, 3, []) := by decide +kernel
theorem i295_130 : lk (mi_ins m295) 130 = some (.iinc 6 1, 3, []) := by decide +kernel
theorem i295_133 : lk (mi_ins m295) 133 = some (.iinc 7 1, 3, [5]) := by decide +kernel
theorem i295_136 : lk (mi_ins m295) 136 = some (.goto (-69), 3, []) := by decide +kernel
theorem i295_139 : lk (mi_ins m295) 139 = some (.aload_n 0, 1, [5, 7]) := by decide +kernel
theorem i295_140 : lk (mi_ins m295) 140 = some (.dup, 1, []) := by decide +kernel
theorem i295_141 : lk (mi_ins m295) 141 = some (.getfield 501, 3, []) := by decide +kernel
theorem i295_144 : lk (mi_ins m295) 144 = some (.aload_n 0, 1, []) := by decide +kernel
theorem i295_145 : lk (mi_ins m295) 145 = some (.iload_n 1, 1, []) := by decide +kernel
theorem i295_146 : lk (mi_ins m295) 146 = some (.invokevirtual 383, 3, []) := by decide +kernel
theorem i295_149 : lk (mi_ins m295) 149 = some (.ifCond .lt 8, 3, []) := by decide +kernel
theorem i295_152 : lk (mi_ins m295) 152 = some (.lload 4, 2, []) := by decide +kernel
theorem i295_154 : lk (mi_ins m295) 154 = some (.goto 4, 3, []) := by decide +kernel
theorem i295_157 : lk (mi_ins m295) 157 = some (.lconst 0, 1, []) := by decide +kernel
theorem i295_158 : lk (mi_ins m295) 158 = some (.ladd, 1, [5, 7]) := by decide +kernel
theorem i295_159 : lk (mi_ins m295) 159 = some (.putfield 501, 3, []) := by decide +kernel
theorem i295_162 : lk (mi_ins m295) 162 = some (.aload_n 0, 1, []) := by decide +kernel
theorem i295_163 : lk (mi_ins m295) 163 = some (.dup, 1, []) := by decide +kernel
theorem i295_164 : lk (mi_ins m295) 164 = some (.getfield 504, 3, []) := by decide +kernel
theorem i295_167 : lk (mi_ins m295) 167 = some (.lload 4, 2, []) := by decide +kernel
theorem i295_169 : lk (mi_ins m295) 169 = some (.sipush 1000, 3, []) := by decide +kernel
theorem i295_172 : lk (mi_ins m295) 172 = some (.aload_n 0, 1, []) := by decide +kernel
theorem i295_173 : lk (mi_ins m295) 173 = some (.iload_n 1, 1, []) := by decide +kernel
theorem i295_174 : lk (mi_ins m295) 174 = some (.invokevirtual 383, 3, []) := by decide +kernel
theorem i295_177 : lk (mi_ins m295) 177 = some (.iadd, 1, []) := by decide +kernel
theorem i295_178 : lk (mi_ins m295) 178 = some (.i2l, 1, []) := by decide +kernel
theorem i295_179 : lk (mi_ins m295) 179 = some (.lmul, 1, []) := by decide +kernel
theorem i295_180 : lk (mi_ins m295) 180 = some (.ladd, 1, []) := by decide +kernel
theorem i295_181 : lk (mi_ins m295) 181 = some (.putfield 504, 3, []) := by decide +kernel
theorem i295_184 : lk (mi_ins m295) 184 = some (.aload_n 0, 1, []) := by decide +kernel
theorem i295_185 : lk (mi_ins m295) 185 = some (.dup, 1, []) := by decide +kernel
theorem i295_186 : lk (mi_ins m295) 186 = some (.getfield 507, 3, []) := by decide +kernel
theorem i295_189 : lk (mi_ins m295) 189 = some (.lload 4, 2, []) := by decide +kernel
theorem i295_191 : lk (mi_ins m295) 191 = some (.iload 6, 2, []) := by decide +kernel
theorem i295_193 : lk (mi_ins m295) 193 = some (.i2l, 1, []) := by decide +kernel
theorem i295_194 : lk (mi_ins m295) 194 = some (.lmul, 1, []) := by decide +kernel
theorem i295_195 : lk (mi_ins m295) 195 = some (.ladd, 1, []) := by decide +kernel
theorem i295_196 : lk (mi_ins m295) 196 = some (.putfield 507, 3, []) := by decide +kernel
theorem i295_199 : lk (mi_ins m295) 199 = some (.iinc 3 1, 3, []) := by decide +kernel
theorem i295_202 : lk (mi_ins m295) 202 = some (.goto (-155), 3, []) := by decide +kernel
theorem i295_205 : lk (mi_ins m295) 205 = some (.return_, 1, [0, 1, 2, 3, 4, 5, 6, 7]) := by decide +kernel
theorem i296_0 : lk (mi_ins m296) 0 = some (.iconst (-1), 1, []) := by decide +kernel
theorem i296_1 : lk (mi_ins m296) 1 = some (.istore_n 2, 1, []) := by decide +kernel
theorem i296_2 : lk (mi_ins m296) 2 = some (.iconst 0, 1, []) := by decide +kernel
theorem i296_3 : lk (mi_ins m296) 3 = some (.istore_n 3, 1, []) := by decide +kernel
theorem i296_4 : lk (mi_ins m296) 4 = some (.iload_n 3, 1, []) := by decide +kernel
theorem i296_5 : lk (mi_ins m296) 5 = some (.iconst 5, 1, []) := by decide +kernel
theorem i296_6 : lk (mi_ins m296) 6 = some (.if_icmp .ge 40, 3, []) := by decide +kernel
theorem i296_9 : lk (mi_ins m296) 9 = some (.aload_n 0, 1, []) := by decide +kernel
theorem i296_10 : lk (mi_ins m296) 10 = some (.getfield 21, 3, []) := by decide +kernel
theorem i296_13 : lk (mi_ins m296) 13 = some (.iload_n 1, 1, []) := by decide +kernel
theorem i296_14 : lk (mi_ins m296) 14 = some (.iload_n 3, 1, []) := by decide +kernel
theorem i296_15 : lk (mi_ins m296) 15 = some (.invokestatic 371, 3, []) := by decide +kernel
theorem i296_18 : lk (mi_ins m296) 18 = some (.iaload, 1, []) := by decide +kernel
theorem i296_19 : lk (mi_ins m296) 19 = some (.ifCond .le 21, 3, []) := by decide +kernel
theorem i296_22 : lk (mi_ins m296) 22 = some (.iload_n 2, 1, []) := by decide +kernel
theorem i296_23 : lk (mi_ins m296) 23 = some (.iconst (-1), 1, []) := by decide +kernel
theorem i296_24 : lk (mi_ins m296) 24 = some (.if_icmp .eq 14, 3, []) := by decide +kernel
theorem i296_27 : lk (mi_ins m296) 27 = some (.iload_n 3, 1, []) := by decide +kernel
theorem i296_28 : lk (mi_ins m296) 28 = some (.invokestatic 374, 3, []) := by decide +kernel
theorem i296_31 : lk (mi_ins m296) 31 = some (.iload_n 2, 1, []) := by decide +kernel
theorem i296_32 : lk (mi_ins m296) 32 = some (.invokestatic 374, 3, []) := by decide +kernel
theorem i296_35 : lk (mi_ins m296) 35 = some (.if_icmp .ge 5, 3, []) := by decide +kernel
theorem i296_38 : lk (mi_ins m296) 38 = some (.iload_n 3, 1, [2]) := by decide +kernel
theorem i296_39 : lk (mi_ins m296) 39 = some (.istore_n 2, 1, []) := by decide +kernel
theorem i296_40 : lk (mi_ins m296) 40 = some (.iinc 3 1, 3, []) := by decide +kernel
theorem i296_43 : lk (mi_ins m296) 43 = some (.goto (-39), 3, []) := by decide +kernel
theorem i296_46 : lk (mi_ins m296) 46 = some (.iload_n 2, 1, [3]) := by decide +kernel
theorem i296_47 : lk (mi_ins m296) 47 = some (.iconst (-1), 1, []) := by decide +kernel
theorem i296_48 : lk (mi_ins m296) 48 = some (.if_icmp .ne 5, 3, []) := by decide +kernel
theorem i296_51 : lk (mi_ins m296) 51 = some (.iconst 0, 1, []) := by decide +kernel
theorem i296_52 : lk (mi_ins m296) 52 = some (.ireturn, 1, []) := by decide +kernel
theorem i296_53 : lk (mi_ins m296) 53 = some (.aload_n 0, 1, []) := by decide +kernel
theorem i296_54 : lk (mi_ins m296) 54 = some (.getfield 21, 3, []) := by decide +kernel
theorem i296_57 : lk (mi_ins m296) 57 = some (.iload_n 1, 1, []) := by decide +kernel
theorem i296_58 : lk (mi_ins m296) 58 = some (.iload_n 2, 1, []) := by decide +kernel
theorem i296_59 : lk (mi_ins m296) 59 = some (.invokestatic 371, 3, []) := by decide +kernel
theorem i296_62 : lk (mi_ins m296) 62 = some (.dup2, 1, []) := by decide +kernel
theorem i296_63 : lk (mi_ins m296) 63 = some (.iaload, 1, []) := by decide +kernel
theorem i296_64 : lk (mi_ins m296) 64 = some (.iconst 1, 1, []) := by decide +kernel
theorem i296_65 : lk (mi_ins m296) 65 = some (.isub, 1, []) := by decide +kernel
theorem i296_66 : lk (mi_ins m296) 66 = some (.iastore, 1, []) := by decide +kernel
theorem i296_67 : lk (mi_ins m296) 67 = some (.iconst 1, 1, []) := by decide +kernel
theorem i296_68 : lk (mi_ins m296) 68 = some (.ireturn, 1, []) := by decide +kernel
theorem i297_0 : lk (mi_ins m297) 0 = some (.aload_n 0, 1, []) := by decide +kernel
theorem i297_1 : lk (mi_ins m297) 1 = some (.iconst 0, 1, []) := by decide +kernel
theorem i297_2 : lk (mi_ins m297) 2 = some (.invokevirtual 61, 3, []) := by decide +kernel
theorem i297_5 : lk (mi_ins m297) 5 = some (.pop, 1, []) := by decide +kernel
theorem i297_6 : lk (mi_ins m297) 6 = some (.iload 5, 2, []) := by decide +kernel
theorem i297_8 : lk (mi_ins m297) 8 = some (.ifCond .eq 7, 3, []) := by decide +kernel
theorem i297_11 : lk (mi_ins m297) 11 = some (.lload_n 3, 1, []) := by decide +kernel
theorem i297_12 : lk (mi_ins m297) 12 = some (.goto 4, 3, []) := by decide +kernel
theorem i297_15 : lk (mi_ins m297) 15 = some (.lload_n 1, 1, []) := by decide +kernel
theorem i297_16 : lk (mi_ins m297) 16 = some (.lload_n 1, 1, [0, 2, 4, 5]) := by decide +kernel
theorem i297_17 : lk (mi_ins m297) 17 = some (.lload_n 3, 1, []) := by decide +kernel
theorem i297_18 : lk (mi_ins m297) 18 = some (.invokestatic 64, 3, []) := by decide +kernel
theorem i297_21 : lk (mi_ins m297) 21 = some (.ldiv, 1, []) := by decide +kernel
theorem i297_22 : lk (mi_ins m297) 22 = some (.lreturn, 1, []) := by decide +kernel
theorem i298_0 : lk (mi_ins m298) 0 = some (.lload_n 0, 1, []) := by decide +kernel
theorem i298_1 : lk (mi_ins m298) 1 = some (.lstore 4, 2, []) := by decide +kernel
theorem i298_3 : lk (mi_ins m298) 3 = some (.lload_n 2, 1, []) := by decide +kernel
theorem i298_4 : lk (mi_ins m298) 4 = some (.lstore 6, 2, []) := by decide +kernel
theorem i298_6 : lk (mi_ins m298) 6 = some (.lload 6, 2, [0, 1, 2, 3, 5, 7, 8, 9]) := by decide +kernel
theorem i298_8 : lk (mi_ins m298) 8 = some (.lconst 0, 1, []) := by decide +kernel
theorem i298_9 : lk (mi_ins m298) 9 = some (.lcmp, 1, []) := by decide +kernel
theorem i298_10 : lk (mi_ins m298) 10 = some (.ifCond .eq 21, 3, []) := by decide +kernel
theorem i298_13 : lk (mi_ins m298) 13 = some (.lload 4, 2, []) := by decide +kernel
theorem i298_15 : lk (mi_ins m298) 15 = some (.lload 6, 2, []) := by decide +kernel
theorem i298_17 : lk (mi_ins m298) 17 = some (.lrem, 1, []) := by decide +kernel
theorem i298_18 : lk (mi_ins m298) 18 = some (.lstore 8, 2, []) := by decide +kernel
theorem i298_20 : lk (mi_ins m298) 20 = some (.lload 6, 2, []) := by decide +kernel
theorem i298_22 : lk (mi_ins m298) 22 = some (.lstore 4, 2, []) := by decide +kernel
theorem i298_24 : lk (mi_ins m298) 24 = some (.lload 8, 2, []) := by decide +kernel
theorem i298_26 : lk (mi_ins m298) 26 = some (.lstore 6, 2, []) := by decide +kernel
theorem i298_28 : lk (mi_ins m298) 28 = some (.goto (-22), 3, []) := by decide +kernel
theorem i298_31 : lk (mi_ins m298) 31 = some (.lload 4, 2, [0, 1, 2, 3, 5, 6, 7, 8, 9]) := by decide +kernel
theorem i298_33 : lk (mi_ins m298) 33 = some (.lreturn, 1, []) := by decide +kernel
theorem i299_0 : lk (mi_ins m299) 0 = some (.aload_n 0, 1, []) := by decide +kernel
theorem i299_1 : lk (mi_ins m299) 1 = some (.iconst 0, 1, []) := by decide +kernel
theorem i299_2 : lk (mi_ins m299) 2 = some (.putfield 51, 3, []) := by decide +kernel
theorem i299_5 : lk (mi_ins m299) 5 = some (.aload_n 0, 1, []) := by decide +kernel
theorem i299_6 : lk (mi_ins m299) 6 = some (.iload_n 1, 1, []) := by decide +kernel
theorem i299_7 : lk (mi_ins m299) 7 = some (.iload_n 2, 1, []) := by decide +kernel
theorem i299_8 : lk (mi_ins m299) 8 = some (.invokevirtual 515, 3, []) := by decide +kernel
theorem i299_11 : lk (mi_ins m299) 11 = some (.istore 4, 2, []) := by decide +kernel
theorem i299_13 : lk (mi_ins m299) 13 = some (.iload 4, 2, []) := by decide +kernel
theorem i299_15 : lk (mi_ins m299) 15 = some (.ifCond .le 11, 3, []) := by decide +kernel
theorem i299_18 : lk (mi_ins m299) 18 = some (.aload_n 0, 1, []) := by decide +kernel
theorem i299_19 : lk (mi_ins m299) 19 = some (.iload 4, 2, []) := by decide +kernel
theorem i299_21 : lk (mi_ins m299) 21 = some (.invokevirtual 57, 3, []) := by decide +kernel
theorem i299_24 : lk (mi_ins m299) 24 = some (.i2l, 1, []) := by decide +kernel
theorem i299_25 : lk (mi_ins m299) 25 = some (.lreturn, 1, []) := by decide +kernel
theorem i299_26 : lk (mi_ins m299) 26 = some (.aload_n 0, 1, []) := by decide +kernel
theorem i299_27 : lk (mi_ins m299) 27 = some (.iload_n 1, 1, []) := by decide +kernel
theorem i299_28 : lk (mi_ins m299) 28 = some (.iload_n 2, 1, []) := by decide +kernel
theorem i299_29 : lk (mi_ins m299) 29 = some (.invokevirtual 518, 3, []) := by decide +kernel
theorem i299_32 : lk (mi_ins m299) 32 = some (.aload_n 0, 1, []) := by decide +kernel
theorem i299_33 : lk (mi_ins m299) 33 = some (.aload_n 0, 1, []) := by decide +kernel
theorem i299_34 : lk (mi_ins m299) 34 = some (.getfield 504, 3, []) := by decide +kernel
theorem i299_37 : lk (mi_ins m299) 37 = some (.aload_n 0, 1, []) := by decide +kernel
theorem i299_38 : lk (mi_ins m299) 38 = some (.getfield 498, 3, []) := by decide +kernel
theorem i299_41 : lk (mi_ins m299) 41 = some (.iload_n 3, 1, []) := by decide +kernel
theorem i299_42 : lk (mi_ins m299) 42 = some (.invokevirtual 521, 3, []) := by decide +kernel
theorem i299_45 : lk (mi_ins m299) 45 = some (.lreturn, 1, []) := by decide +kernel
theorem i300_0 : lk (mi_ins m300) 0 = some (.aload_n 0, 1, []) := by decide +kernel
theorem i300_1 : lk (mi_ins m300) 1 = some (.iconst 0, 1, []) := by decide +kernel
theorem i300_2 : lk (mi_ins m300) 2 = some (.putfield 51, 3, []) := by decide +kernel
theorem i300_5 : lk (mi_ins m300) 5 = some (.aload_n 0, 1, []) := by decide +kernel
theorem i300_6 : lk (mi_ins m300) 6 = some (.getfield 360, 3, []) := by decide +kernel
theorem i300_9 : lk (mi_ins m300) 9 = some (.ifnonnull 9, 3, []) := by decide +kernel
theorem i300_12 : lk (mi_ins m300) 12 = some (.aload_n 0, 1, []) := by decide +kernel
theorem i300_13 : lk (mi_ins m300) 13 = some (.iconst 1, 1, []) := by decide +kernel
theorem i300_14 : lk (mi_ins m300) 14 = some (.invokevirtual 57, 3, []) := by decide +kernel
theorem i300_17 : lk (mi_ins m300) 17 = some (.ireturn, 1, []) := by decide +kernel
theorem i300_18 : lk (mi_ins m300) 18 = some (.iload_n 1, 1, []) := by decide +kernel
theorem i300_19 : lk (mi_ins m300) 19 = some (.iconst 0, 1, []) := by decide +kernel
theorem i300_20 : lk (mi_ins m300) 20 = some (.iconst 4, 1, []) := by decide +kernel
theorem i300_21 : lk (mi_ins m300) 21 = some (.invokestatic 130, 3, []) := by decide +kernel
theorem i300_24 : lk (mi_ins m300) 24 = some (.ifCond .ne 9, 3, []) := by decide +kernel
theorem i300_27 : lk (mi_ins m300) 27 = some (.aload_n 0, 1, []) := by decide +kernel
theorem i300_28 : lk (mi_ins m300) 28 = some (.iconst 2, 1, []) := by decide +kernel
theorem i300_29 : lk (mi_ins m300) 29 = some (.invokevirtual 57, 3, []) := by decide +kernel
theorem i300_32 : lk (mi_ins m300) 32 = some (.ireturn, 1, []) := by decide +kernel
theorem i300_33 : lk (mi_ins m300) 33 = some (.bipush (-2), 2, []) := by decide +kernel
theorem i300_35 : lk (mi_ins m300) 35 = some (.istore_n 2, 1, []) := by decide +kernel
theorem i300_36 : lk (mi_ins m300) 36 = some (.ldc2_w 525, 3, []) := by decide +kernel
theorem i300_39 : lk (mi_ins m300) 39 = some (.lstore_n 3, 1, []) := by decide +kernel
theorem i300_40 : lk (mi_ins m300) 40 = some (.iconst 0, 1, []) := by decide +kernel
theorem i300_41 : lk (mi_ins m300) 41 = some (.istore 5, 2, []) := by decide +kernel
theorem i300_43 : lk (mi_ins m300) 43 = some (.iload 5, 2, [4]) := by decide +kernel
theorem i300_45 : lk (mi_ins m300) 45 = some (.aload_n 0, 1, []) := by decide +kernel
theorem i300_46 : lk (mi_ins m300) 46 = some (.getfield 360, 3, []) := by decide +kernel
theorem i300_49 : lk (mi_ins m300) 49 = some (.getfield 209, 3, []) := by decide +kernel
theorem i300_52 : lk (mi_ins m300) 52 = some (.if_icmp .ge 53, 3, []) := by decide +kernel
theorem i300_55 : lk (mi_ins m300) 55 = some (.aload_n 0, 1, []) := by decide +kernel
theorem i300_56 : lk (mi_ins m300) 56 = some (.getfield 360, 3, []) := by decide +kernel
theorem i300_59 : lk (mi_ins m300) 59 = some (.getfield 261, 3, []) := by decide +kernel
theorem i300_62 : lk (mi_ins m300) 62 = some (.iload 5, 2, []) := by decide +kernel
theorem i300_64 : lk (mi_ins m300) 64 = some (.iaload, 1, []) := by decide +kernel
theorem i300_65 : lk (mi_ins m300) 65 = some (.iconst 1, 1, []) := by decide +kernel
theorem i300_66 : lk (mi_ins m300) 66 = some (.if_icmp .ne 6, 3, []) := by decide +kernel
theorem i300_69 : lk (mi_ins m300) 69 = some (.goto 30, 3, []) := by decide +kernel
theorem i300_72 : lk (mi_ins m300) 72 = some (.aload_n 0, 1, []) := by decide +kernel
theorem i300_73 : lk (mi_ins m300) 73 = some (.iload 5, 2, []) := by decide +kernel
theorem i300_75 : lk (mi_ins m300) 75 = some (.iload_n 1, 1, []) := by decide +kernel
theorem i300_76 : lk (mi_ins m300) 76 = some (.invokevirtual 518, 3, []) := by decide +kernel
theorem i300_79 : lk (mi_ins m300) 79 = some (.aload_n 0, 1, []) := by decide +kernel
theorem i300_80 : lk (mi_ins m300) 80 = some (.getfield 501, 3, []) := by decide +kernel
theorem i300_83 : lk (mi_ins m300) 83 = some (.lload_n 3, 1, []) := by decide +kernel
theorem i300_84 : lk (mi_ins m300) 84 = some (.lcmp, 1, []) := by decide +kernel
theorem i300_85 : lk (mi_ins m300) 85 = some (.ifCond .gt 6, 3, []) := by decide +kernel
theorem i300_88 : lk (mi_ins m300) 88 = some (.goto 11, 3, []) := by decide +kernel
theorem i300_91 : lk (mi_ins m300) 91 = some (.aload_n 0, 1, []) := by decide +kernel
theorem i300_92 : lk (mi_ins m300) 92 = some (.getfield 501, 3, []) := by decide +kernel
theorem i300_95 : lk (mi_ins m300) 95 = some (.lstore_n 3, 1, []) := by decide +kernel
theorem i300_96 : lk (mi_ins m300) 96 = some (.iload 5, 2, []) := by decide +kernel
theorem i300_98 : lk (mi_ins m300) 98 = some (.istore_n 2, 1, []) := by decide +kernel
theorem i300_99 : lk (mi_ins m300) 99 = some (.iinc 5 1, 3, [4]) := by decide +kernel
theorem i300_102 : lk (mi_ins m300) 102 = some (.goto (-59), 3, []) := by decide +kernel
theorem i300_105 : lk (mi_ins m300) 105 = some (.aload_n 0, 1, [1, 3, 4, 5]) := by decide +kernel
theorem i300_106 : lk (mi_ins m300) 106 = some (.iload_n 2, 1, []) := by decide +kernel
theorem i300_107 : lk (mi_ins m300) 107 = some (.invokevirtual 61, 3, []) := by decide +kernel
theorem i300_110 : lk (mi_ins m300) 110 = some (.ireturn, 1, []) := by decide +kernel
theorem i301_0 : lk (mi_ins m301) 0 = some (.aload_n 0, 1, []) := by decide +kernel
theorem i301_1 : lk (mi_ins m301) 1 = some (.iconst 0, 1, []) := by decide +kernel
theorem i301_2 : lk (mi_ins m301) 2 = some (.putfield 51, 3, []) := by decide +kernel
theorem i301_5 : lk (mi_ins m301) 5 = some (.aload_n 0, 1, []) := by decide +kernel
theorem i301_6 : lk (mi_ins m301) 6 = some (.iload_n 1, 1, []) := by decide +kernel
theorem i301_7 : lk (mi_ins m301) 7 = some (.iload_n 2, 1, []) := by decide +kernel
theorem i301_8 : lk (mi_ins m301) 8 = some (.invokevirtual 515, 3, []) := by decide +kernel
theorem i301_11 : lk (mi_ins m301) 11 = some (.istore 4, 2, []) := by decide +kernel
theorem i301_13 : lk (mi_ins m301) 13 = some (.iload 4, 2, []) := by decide +kernel
theorem i301_15 : lk (mi_ins m301) 15 = some (.ifCond .le 11, 3, []) := by decide +kernel
theorem i301_18 : lk (mi_ins m301) 18 = some (.aload_n 0, 1, []) := by decide +kernel
theorem i301_19 : lk (mi_ins m301) 19 = some (.iload 4, 2, []) := by decide +kernel
theorem i301_21 : lk (mi_ins m301) 21 = some (.invokevirtual 57, 3, []) := by decide +kernel
theorem i301_24 : lk (mi_ins m301) 24 = some (.i2l, 1, []) := by decide +kernel
theorem i301_25 : lk (mi_ins m301) 25 = some (.lreturn, 1, []) := by decide +kernel
theorem i301_26 : lk (mi_ins m301) 26 = some (.aload_n 0, 1, []) := by decide +kernel
theorem i301_27 : lk (mi_ins m301) 27 = some (.iload_n 1, 1, []) := by decide +kernel
theorem i301_28 : lk (mi_ins m301) 28 = some (.iload_n 2, 1, []) := by decide +kernel
theorem i301_29 : lk (mi_ins m301) 29 = some (.invokevirtual 518, 3, []) := by decide +kernel
theorem i301_32 : lk (mi_ins m301) 32 = some (.aload_n 0, 1, []) := by decide +kernel
theorem i301_33 : lk (mi_ins m301) 33 = some (.aload_n 0, 1, []) := by decide +kernel
theorem i301_34 : lk (mi_ins m301) 34 = some (.getfield 507, 3, []) := by decide +kernel
theorem i301_37 : lk (mi_ins m301) 37 = some (.aload_n 0, 1, []) := by decide +kernel
theorem i301_38 : lk (mi_ins m301) 38 = some (.getfield 498, 3, []) := by decide +kernel
theorem i301_41 : lk (mi_ins m301) 41 = some (.iload_n 3, 1, []) := by decide +kernel
theorem i301_42 : lk (mi_ins m301) 42 = some (.invokevirtual 521, 3, []) := by decide +kernel
theorem i301_45 : lk (mi_ins m301) 45 = some (.lreturn, 1, []) := by decide +kernel
theorem i302_0 : lk (mi_ins m302) 0 = some (.aload_n 0, 1, []) := by decide +kernel
theorem i302_1 : lk (mi_ins m302) 1 = some (.iconst 0, 1, []) := by decide +kernel
theorem i302_2 : lk (mi_ins m302) 2 = some (.putfield 51, 3, []) := by decide +kernel
theorem i302_5 : lk (mi_ins m302) 5 = some (.aload_n 0, 1, []) := by decide +kernel
theorem i302_6 : lk (mi_ins m302) 6 = some (.aload_n 0, 1, []) := by decide +kernel
theorem i302_7 : lk (mi_ins m302) 7 = some (.iload_n 1, 1, []) := by decide +kernel
theorem i302_8 : lk (mi_ins m302) 8 = some (.invokevirtual 404, 3, []) := by decide +kernel
theorem i302_11 : lk (mi_ins m302) 11 = some (.iload_n 2, 1, []) := by decide +kernel
theorem i302_12 : lk (mi_ins m302) 12 = some (.iload_n 3, 1, []) := by decide +kernel
theorem i302_13 : lk (mi_ins m302) 13 = some (.invokevirtual 540, 3, []) := by decide +kernel
theorem i302_16 : lk (mi_ins m302) 16 = some (.istore 4, 2, []) := by decide +kernel
theorem i302_18 : lk (mi_ins m302) 18 = some (.iload 4, 2, []) := by decide +kernel
theorem i302_20 : lk (mi_ins m302) 20 = some (.ifCond .le 10, 3, []) := by decide +kernel
theorem i302_23 : lk (mi_ins m302) 23 = some (.aload_n 0, 1, []) := by decide +kernel
theorem i302_24 : lk (mi_ins m302) 24 = some (.iload 4, 2, []) := by decide +kernel
theorem i302_26 : lk (mi_ins m302) 26 = some (.invokevirtual 57, 3, []) := by decide +kernel
theorem i302_29 : lk (mi_ins m302) 29 = some (.ireturn, 1, []) := by decide +kernel
theorem i302_30 : lk (mi_ins m302) 30 = some (.aload_n 0, 1, []) := by decide +kernel
theorem i302_31 : lk (mi_ins m302) 31 = some (.iload_n 2, 1, []) := by decide +kernel
theorem i302_32 : lk (mi_ins m302) 32 = some (.iload_n 3, 1, []) := by decide +kernel
theorem i302_33 : lk (mi_ins m302) 33 = some (.invokevirtual 544, 3, []) := by decide +kernel
theorem i302_36 : lk (mi_ins m302) 36 = some (.pop, 1, []) := by decide +kernel
theorem i302_37 : lk (mi_ins m302) 37 = some (.aload_n 0, 1, []) := by decide +kernel
theorem i302_38 : lk (mi_ins m302) 38 = some (.sipush 1000, 3, []) := by decide +kernel
theorem i302_41 : lk (mi_ins m302) 41 = some (.aload_n 0, 1, []) := by decide +kernel
theorem i302_42 : lk (mi_ins m302) 42 = some (.iload_n 1, 1, []) := by decide +kernel
theorem i302_43 : lk (mi_ins m302) 43 = some (.invokevirtual 398, 3, []) := by decide +kernel
theorem i302_46 : lk (mi_ins m302) 46 = some (.iadd, 1, []) := by decide +kernel
theorem i302_47 : lk (mi_ins m302) 47 = some (.invokevirtual 61, 3, []) := by decide +kernel
theorem i302_50 : lk (mi_ins m302) 50 = some (.ireturn, 1, []) := by decide +kernel
theorem i303_0 : lk (mi_ins m303) 0 = some (.iload_n 1, 1, []) := by decide +kernel
theorem i303_1 : lk (mi_ins m303) 1 = some (.ifCond .ne 7, 3, []) := by decide +kernel
theorem i303_4 : lk (mi_ins m303) 4 = some (.iconst 1, 1, []) := by decide +kernel
theorem i303_5 : lk (mi_ins m303) 5 = some (.goto 29, 3, []) := by decide +kernel
theorem i303_8 : lk (mi_ins m303) 8 = some (.iload_n 2, 1, []) := by decide +kernel
theorem i303_9 : lk (mi_ins m303) 9 = some (.iconst 0, 1, []) := by decide +kernel
theorem i303_10 : lk (mi_ins m303) 10 = some (.ldc_w 539, 3, []) := by decide +kernel
theorem i303_13 : lk (mi_ins m303) 13 = some (.invokestatic 130, 3, []) := by decide +kernel
theorem i303_16 : lk (mi_ins m303) 16 = some (.ifCond .eq 17, 3, []) := by decide +kernel
theorem i303_19 : lk (mi_ins m303) 19 = some (.iload_n 3, 1, []) := by decide +kernel
theorem i303_20 : lk (mi_ins m303) 20 = some (.iconst 0, 1, []) := by decide +kernel
theorem i303_21 : lk (mi_ins m303) 21 = some (.bipush 20, 2, []) := by decide +kernel
theorem i303_23 : lk (mi_ins m303) 23 = some (.invokestatic 130, 3, []) := by decide +kernel
theorem i303_26 : lk (mi_ins m303) 26 = some (.ifCond .eq 7, 3, []) := by decide +kernel
theorem i303_29 : lk (mi_ins m303) 29 = some (.iconst 0, 1, []) := by decide +kernel
theorem i303_30 : lk (mi_ins m303) 30 = some (.goto 4, 3, []) := by decide +kernel
theorem i303_33 : lk (mi_ins m303) 33 = some (.iconst 2, 1, [0, 1, 2, 3]) := by decide +kernel
theorem i303_34 : lk (mi_ins m303) 34 = some (.ireturn, 1, [0, 1, 2, 3]) := by decide +kernel
theorem i304_0 : lk (mi_ins m304) 0 = some (.aload_n 0, 1, []) := by decide +kernel
theorem i304_1 : lk (mi_ins m304) 1 = some (.invokevirtual 407, 3, []) := by decide +kernel
theorem i304_4 : lk (mi_ins m304) 4 = some (.aload_n 0, 1, []) := by decide +kernel
theorem i304_5 : lk (mi_ins m304) 5 = some (.getfield 21, 3, []) := by decide +kernel
theorem i304_8 : lk (mi_ins m304) 8 = some (.bipush 30, 2, []) := by decide +kernel
theorem i304_10 : lk (mi_ins m304) 10 = some (.iload_n 1, 1, []) := by decide +kernel
theorem i304_11 : lk (mi_ins m304) 11 = some (.iastore, 1, []) := by decide +kernel
theorem i304_12 : lk (mi_ins m304) 12 = some (.aload_n 0, 1, []) := by decide +kernel
theorem i304_13 : lk (mi_ins m304) 13 = some (.iconst 0, 1, []) := by decide +kernel
theorem i304_14 : lk (mi_ins m304) 14 = some (.putfield 533, 3, []) := by decide +kernel
theorem i304_17 : lk (mi_ins m304) 17 = some (.aload_n 0, 1, []) := by decide +kernel
theorem i304_18 : lk (mi_ins m304) 18 = some (.invokevirtual 419, 3, []) := by decide +kernel
theorem i304_21 : lk (mi_ins m304) 21 = some (.ifCond .eq 7, 3, []) := by decide +kernel
theorem i304_24 : lk (mi_ins m304) 24 = some (.iconst 0, 1, []) := by decide +kernel
theorem i304_25 : lk (mi_ins m304) 25 = some (.goto 5, 3, []) := by decide +kernel
theorem i304_28 : lk (mi_ins m304) 28 = some (.bipush (-2), 2, []) := by decide +kernel
theorem i304_30 : lk (mi_ins m304) 30 = some (.istore_n 3, 1, [1, 3, 4]) := by decide +kernel
theorem i304_31 : lk (mi_ins m304) 31 = some (.iconst 1, 1, []) := by decide +kernel
theorem i304_32 : lk (mi_ins m304) 32 = some (.istore 4, 2, []) := by decide +kernel
theorem i304_34 : lk (mi_ins m304) 34 = some (.iload 4, 2, [1]) := by decide +kernel
theorem i304_36 : lk (mi_ins m304) 36 = some (.iload_n 2, 1, []) := by decide +kernel
theorem i304_37 : lk (mi_ins m304) 37 = some (.if_icmp .gt 29, 3, []) := by decide +kernel
theorem i304_40 : lk (mi_ins m304) 40 = some (.aload_n 0, 1, []) := by decide +kernel
theorem i304_41 : lk (mi_ins m304) 41 = some (.invokevirtual 536, 3, []) := by decide +kernel
theorem i304_44 : lk (mi_ins m304) 44 = some (.iload_n 3, 1, []) := by decide +kernel
theorem i304_45 : lk (mi_ins m304) 45 = some (.bipush (-2), 2, []) := by decide +kernel
theorem i304_47 : lk (mi_ins m304) 47 = some (.if_icmp .ne 13, 3, []) := by decide +kernel
theorem i304_50 : lk (mi_ins m304) 50 = some (.aload_n 0, 1, []) := by decide +kernel
theorem i304_51 : lk (mi_ins m304) 51 = some (.invokevirtual 419, 3, []) := by decide +kernel
theorem i304_54 : lk (mi_ins m304) 54 = some (.ifCond .eq 6, 3, []) := by decide +kernel
theorem i304_57 : lk (mi_ins m304) 57 = some (.iload 4, 2, []) := by decide +kernel
theorem i304_59 : lk (mi_ins m304) 59 = some (.istore_n 3, 1, []) := by decide +kernel
theorem i304_60 : lk (mi_ins m304) 60 = some (.iinc 4 1, 3, [1]) := by decide +kernel
theorem i304_63 : lk (mi_ins m304) 63 = some (.goto (-29), 3, []) := by decide +kernel
theorem i304_66 : lk (mi_ins m304) 66 = some (.iload_n 3, 1, [0, 1, 2, 4]) := by decide +kernel
theorem i304_67 : lk (mi_ins m304) 67 = some (.ireturn, 1, []) := by decide +kernel
theorem i305_0 : lk (mi_ins m305) 0 = some (.aload_n 0, 1, []) := by decide +kernel
theorem i305_1 : lk (mi_ins m305) 1 = some (.invokevirtual 401, 3, []) := by decide +kernel
theorem i305_4 : lk (mi_ins m305) 4 = some (.iconst 0, 1, []) := by decide +kernel
theorem i305_5 : lk (mi_ins m305) 5 = some (.istore_n 1, 1, []) := by decide +kernel
theorem i305_6 : lk (mi_ins m305) 6 = some (.iload_n 1, 1, []) := by decide +kernel
theorem i305_7 : lk (mi_ins m305) 7 = some (.aload_n 0, 1, []) := by decide +kernel
theorem i305_8 : lk (mi_ins m305) 8 = some (.getfield 360, 3, []) := by decide +kernel
theorem i305_11 : lk (mi_ins m305) 11 = some (.getfield 209, 3, []) := by decide +kernel
theorem i305_14 : lk (mi_ins m305) 14 = some (.if_icmp .ge 91, 3, []) := by decide +kernel
theorem i305_17 : lk (mi_ins m305) 17 = some (.aload_n 0, 1, []) := by decide +kernel
theorem i305_18 : lk (mi_ins m305) 18 = some (.getfield 360, 3, []) := by decide +kernel
theorem i305_21 : lk (mi_ins m305) 21 = some (.getfield 261, 3, []) := by decide +kernel
theorem i305_24 : lk (mi_ins m305) 24 = some (.iload_n 1, 1, []) := by decide +kernel
theorem i305_25 : lk (mi_ins m305) 25 = some (.iaload, 1, []) := by decide +kernel
theorem i305_26 : lk (mi_ins m305) 26 = some (.iconst 1, 1, []) := by decide +kernel
theorem i305_27 : lk (mi_ins m305) 27 = some (.if_icmp .ne 6, 3, []) := by decide +kernel
theorem i305_30 : lk (mi_ins m305) 30 = some (.goto 69, 3, []) := by decide +kernel
theorem i305_33 : lk (mi_ins m305) 33 = some (.aload_n 0, 1, []) := by decide +kernel
theorem i305_34 : lk (mi_ins m305) 34 = some (.getfield 21, 3, []) := by decide +kernel
theorem i305_37 : lk (mi_ins m305) 37 = some (.bipush 30, 2, []) := by decide +kernel
theorem i305_39 : lk (mi_ins m305) 39 = some (.ldc2_w 527, 3, []) := by decide +kernel
theorem i305_42 : lk (mi_ins m305) 42 = some (.aload_n 0, 1, []) := by decide +kernel
theorem i305_43 : lk (mi_ins m305) 43 = some (.getfield 21, 3, []) := by decide +kernel
theorem i305_46 : lk (mi_ins m305) 46 = some (.bipush 30, 2, []) := by decide +kernel
theorem i305_48 : lk (mi_ins m305) 48 = some (.iaload, 1, []) := by decide +kernel
theorem i305_49 : lk (mi_ins m305) 49 = some (.i2l, 1, []) := by decide +kernel
theorem i305_50 : lk (mi_ins m305) 50 = some (.lmul, 1, []) := by decide +kernel
theorem i305_51 : lk (mi_ins m305) 51 = some (.ldc2_w 529, 3, []) := by decide +kernel
theorem i305_54 : lk (mi_ins m305) 54 = some (.ladd, 1, []) := by decide +kernel
theorem i305_55 : lk (mi_ins m305) 55 = some (.ldc2_w 531, 3, []) := by decide +kernel
theorem i305_58 : lk (mi_ins m305) 58 = some (.lrem, 1, []) := by decide +kernel
theorem i305_59 : lk (mi_ins m305) 59 = some (.l2i, 1, []) := by decide +kernel
theorem i305_60 : lk (mi_ins m305) 60 = some (.iastore, 1, []) := by decide +kernel
theorem i305_61 : lk (mi_ins m305) 61 = some (.aload_n 0, 1, []) := by decide +kernel
theorem i305_62 : lk (mi_ins m305) 62 = some (.getfield 21, 3, []) := by decide +kernel
theorem i305_65 : lk (mi_ins m305) 65 = some (.bipush 30, 2, []) := by decide +kernel
theorem i305_67 : lk (mi_ins m305) 67 = some (.iaload, 1, []) := by decide +kernel
theorem i305_68 : lk (mi_ins m305) 68 = some (.bipush 100, 2, []) := by decide +kernel
theorem i305_70 : lk (mi_ins m305) 70 = some (.irem, 1, []) := by decide +kernel
theorem i305_71 : lk (mi_ins m305) 71 = some (.aload_n 0, 1, []) := by decide +kernel
theorem i305_72 : lk (mi_ins m305) 72 = some (.getfield 360, 3, []) := by decide +kernel
theorem i305_75 : lk (mi_ins m305) 75 = some (.getfield 164, 3, []) := by decide +kernel
theorem i305_78 : lk (mi_ins m305) 78 = some (.if_icmp .ge 21, 3, []) := by decide +kernel
theorem i305_81 : lk (mi_ins m305) 81 = some (.aload_n 0, 1, []) := by decide +kernel
theorem i305_82 : lk (mi_ins m305) 82 = some (.iload_n 1, 1, []) := by decide +kernel
theorem i305_83 : lk (mi_ins m305) 83 = some (.invokevirtual 512, 3, []) := by decide +kernel
theorem i305_86 : lk (mi_ins m305) 86 = some (.ifCond .eq 13, 3, []) := by decide +kernel
theorem i305_89 : lk (mi_ins m305) 89 = some (.aload_n 0, 1, []) := by decide +kernel
theorem i305_90 : lk (mi_ins m305) 90 = some (.dup, 1, []) := by decide +kernel
theorem i305_91 : lk (mi_ins m305) 91 = some (.getfield 533, 3, []) := by decide +kernel
theorem i305_94 : lk (mi_ins m305) 94 = some (.iconst 1, 1, []) := by decide +kernel
theorem i305_95 : lk (mi_ins m305) 95 = some (.iadd, 1, []) := by decide +kernel
theorem i305_96 : lk (mi_ins m305) 96 = some (.putfield 533, 3, []) := by decide +kernel
theorem i305_99 : lk (mi_ins m305) 99 = some (.iinc 1 1, 3, []) := by decide +kernel
theorem i305_102 : lk (mi_ins m305) 102 = some (.goto (-96), 3, []) := by decide +kernel
theorem i305_105 : lk (mi_ins m305) 105 = some (.return_, 1, [0, 1]) := by decide +kernel
theorem i306_0 : lk (mi_ins m306) 0 = some (.aload_n 0, 1, []) := by decide +kernel
theorem i306_1 : lk (mi_ins m306) 1 = some (.iconst 0, 1, []) := by decide +kernel
theorem i306_2 : lk (mi_ins m306) 2 = some (.putfield 51, 3, []) := by decide +kernel
theorem i306_5 : lk (mi_ins m306) 5 = some (.aload_n 0, 1, []) := by decide +kernel
theorem i306_6 : lk (mi_ins m306) 6 = some (.aload_n 0, 1, []) := by decide +kernel
theorem i306_7 : lk (mi_ins m306) 7 = some (.getfield 360, 3, []) := by decide +kernel
theorem i306_10 : lk (mi_ins m306) 10 = some (.ifnull 7, 3, []) := by decide +kernel
theorem i306_13 : lk (mi_ins m306) 13 = some (.iconst 1, 1, []) := by decide +kernel
theorem i306_14 : lk (mi_ins m306) 14 = some (.goto 4, 3, []) := by decide +kernel
theorem i306_17 : lk (mi_ins m306) 17 = some (.iconst 0, 1, []) := by decide +kernel
theorem i306_18 : lk (mi_ins m306) 18 = some (.iload_n 1, 1, [3]) := by decide +kernel
theorem i306_19 : lk (mi_ins m306) 19 = some (.iload_n 2, 1, []) := by decide +kernel
theorem i306_20 : lk (mi_ins m306) 20 = some (.invokevirtual 540, 3, []) := by decide +kernel
theorem i306_23 : lk (mi_ins m306) 23 = some (.istore_n 3, 1, []) := by decide +kernel
theorem i306_24 : lk (mi_ins m306) 24 = some (.iload_n 3, 1, []) := by decide +kernel
theorem i306_25 : lk (mi_ins m306) 25 = some (.ifCond .le 9, 3, []) := by decide +kernel
theorem i306_28 : lk (mi_ins m306) 28 = some (.aload_n 0, 1, []) := by decide +kernel
theorem i306_29 : lk (mi_ins m306) 29 = some (.iload_n 3, 1, []) := by decide +kernel
theorem i306_30 : lk (mi_ins m306) 30 = some (.invokevirtual 57, 3, []) := by decide +kernel
theorem i306_33 : lk (mi_ins m306) 33 = some (.ireturn, 1, []) := by decide +kernel
theorem i306_34 : lk (mi_ins m306) 34 = some (.aload_n 0, 1, []) := by decide +kernel
theorem i306_35 : lk (mi_ins m306) 35 = some (.iload_n 1, 1, []) := by decide +kernel
theorem i306_36 : lk (mi_ins m306) 36 = some (.iload_n 2, 1, []) := by decide +kernel
theorem i306_37 : lk (mi_ins m306) 37 = some (.invokevirtual 544, 3, []) := by decide +kernel
theorem i306_40 : lk (mi_ins m306) 40 = some (.pop, 1, []) := by decide +kernel
theorem i306_41 : lk (mi_ins m306) 41 = some (.aload_n 0, 1, []) := by decide +kernel
theorem i306_42 : lk (mi_ins m306) 42 = some (.aload_n 0, 1, []) := by decide +kernel
theorem i306_43 : lk (mi_ins m306) 43 = some (.getfield 533, 3, []) := by decide +kernel
theorem i306_46 : lk (mi_ins m306) 46 = some (.invokevirtual 61, 3, []) := by decide +kernel
theorem i306_49 : lk (mi_ins m306) 49 = some (.ireturn, 1, []) := by decide +kernel
theorem i307_0 : lk (mi_ins m307) 0 = some (.aload_n 0, 1, []) := by decide +kernel
theorem i307_1 : lk (mi_ins m307) 1 = some (.iconst 0, 1, []) := by decide +kernel
theorem i307_2 : lk (mi_ins m307) 2 = some (.putfield 51, 3, []) := by decide +kernel
theorem i307_5 : lk (mi_ins m307) 5 = some (.aload_n 0, 1, []) := by decide +kernel
theorem i307_6 : lk (mi_ins m307) 6 = some (.aload_n 0, 1, []) := by decide +kernel
theorem i307_7 : lk (mi_ins m307) 7 = some (.getfield 360, 3, []) := by decide +kernel
theorem i307_10 : lk (mi_ins m307) 10 = some (.ifnull 7, 3, []) := by decide +kernel
theorem i307_13 : lk (mi_ins m307) 13 = some (.iconst 1, 1, []) := by decide +kernel
theorem i307_14 : lk (mi_ins m307) 14 = some (.goto 4, 3, []) := by decide +kernel
theorem i307_17 : lk (mi_ins m307) 17 = some (.iconst 0, 1, []) := by decide +kernel
theorem i307_18 : lk (mi_ins m307) 18 = some (.iload_n 1, 1, [3]) := by decide +kernel
theorem i307_19 : lk (mi_ins m307) 19 = some (.iload_n 2, 1, []) := by decide +kernel
theorem i307_20 : lk (mi_ins m307) 20 = some (.invokevirtual 540, 3, []) := by decide +kernel
theorem i307_23 : lk (mi_ins m307) 23 = some (.istore_n 3, 1, []) := by decide +kernel
theorem i307_24 : lk (mi_ins m307) 24 = some (.iload_n 3, 1, []) := by decide +kernel
theorem i307_25 : lk (mi_ins m307) 25 = some (.ifCond .le 11, 3, []) := by decide +kernel
theorem i307_28 : lk (mi_ins m307) 28 = some (.aload_n 0, 1, []) := by decide +kernel
theorem i307_29 : lk (mi_ins m307) 29 = some (.iload_n 3, 1, []) := by decide +kernel
theorem i307_30 : lk (mi_ins m307) 30 = some (.invokevirtual 57, 3, []) := by decide +kernel
theorem i307_33 : lk (mi_ins m307) 33 = some (.goto 13, 3, []) := by decide +kernel
theorem i307_36 : lk (mi_ins m307) 36 = some (.aload_n 0, 1, []) := by decide +kernel
theorem i307_37 : lk (mi_ins m307) 37 = some (.aload_n 0, 1, []) := by decide +kernel
theorem i307_38 : lk (mi_ins m307) 38 = some (.iload_n 1, 1, []) := by decide +kernel
theorem i307_39 : lk (mi_ins m307) 39 = some (.iload_n 2, 1, []) := by decide +kernel
theorem i307_40 : lk (mi_ins m307) 40 = some (.invokevirtual 544, 3, []) := by decide +kernel
theorem i307_43 : lk (mi_ins m307) 43 = some (.invokevirtual 61, 3, []) := by decide +kernel
theorem i307_46 : lk (mi_ins m307) 46 = some (.ireturn, 1, [0, 1, 2, 3]) := by decide +kernel
theorem i308_0 : lk (mi_ins m308) 0 = some (.aload_n 0, 1, []) := by decide +kernel
theorem i308_1 : lk (mi_ins m308) 1 = some (.iconst 0, 1, []) := by decide +kernel
theorem i308_2 : lk (mi_ins m308) 2 = some (.putfield 51, 3, []) := by decide +kernel
theorem i308_5 : lk (mi_ins m308) 5 = some (.aload_n 0, 1, []) := by decide +kernel
theorem i308_6 : lk (mi_ins m308) 6 = some (.iload_n 1, 1, []) := by decide +kernel
theorem i308_7 : lk (mi_ins m308) 7 = some (.invokevirtual 462, 3, []) := by decide +kernel
theorem i308_10 : lk (mi_ins m308) 10 = some (.ifCond .eq 11, 3, []) := by decide +kernel
theorem i308_13 : lk (mi_ins m308) 13 = some (.aload_n 0, 1, []) := by decide +kernel
theorem i308_14 : lk (mi_ins m308) 14 = some (.iload_n 2, 1, []) := by decide +kernel
theorem i308_15 : lk (mi_ins m308) 15 = some (.invokevirtual 404, 3, []) := by decide +kernel
theorem i308_18 : lk (mi_ins m308) 18 = some (.ifCond .ne 9, 3, []) := by decide +kernel
theorem i308_21 : lk (mi_ins m308) 21 = some (.aload_n 0, 1, [1, 2, 3]) := by decide +kernel
theorem i308_22 : lk (mi_ins m308) 22 = some (.iconst 1, 1, []) := by decide +kernel
theorem i308_23 : lk (mi_ins m308) 23 = some (.invokevirtual 57, 3, []) := by decide +kernel
theorem i308_26 : lk (mi_ins m308) 26 = some (.ireturn, 1, []) := by decide +kernel
theorem i308_27 : lk (mi_ins m308) 27 = some (.iload_n 2, 1, []) := by decide +kernel
theorem i308_28 : lk (mi_ins m308) 28 = some (.aload_n 0, 1, []) := by decide +kernel
theorem i308_29 : lk (mi_ins m308) 29 = some (.getfield 360, 3, []) := by decide +kernel
theorem i308_32 : lk (mi_ins m308) 32 = some (.getfield 307, 3, []) := by decide +kernel
theorem i308_35 : lk (mi_ins m308) 35 = some (.iload_n 1, 1, []) := by decide +kernel
theorem i308_36 : lk (mi_ins m308) 36 = some (.iaload, 1, []) := by decide +kernel
theorem i308_37 : lk (mi_ins m308) 37 = some (.invokestatic 371, 3, []) := by decide +kernel
theorem i308_40 : lk (mi_ins m308) 40 = some (.istore_n 3, 1, []) := by decide +kernel
theorem i308_41 : lk (mi_ins m308) 41 = some (.aload_n 0, 1, []) := by decide +kernel
theorem i308_42 : lk (mi_ins m308) 42 = some (.getfield 17, 3, []) := by decide +kernel
theorem i308_45 : lk (mi_ins m308) 45 = some (.iload_n 3, 1, []) := by decide +kernel
theorem i308_46 : lk (mi_ins m308) 46 = some (.iaload, 1, []) := by decide +kernel
theorem i308_47 : lk (mi_ins m308) 47 = some (.sipush 999, 3, []) := by decide +kernel
theorem i308_50 : lk (mi_ins m308) 50 = some (.if_icmp .lt 9, 3, []) := by decide +kernel
theorem i308_53 : lk (mi_ins m308) 53 = some (.aload_n 0, 1, []) := by decide +kernel
theorem i308_54 : lk (mi_ins m308) 54 = some (.iconst 3, 1, []) := by decide +kernel
theorem i308_55 : lk (mi_ins m308) 55 = some (.invokevirtual 57, 3, []) := by decide +kernel
theorem i308_58 : lk (mi_ins m308) 58 = some (.ireturn, 1, []) := by decide +kernel
theorem i308_59 : lk (mi_ins m308) 59 = some (.aload_n 0, 1, []) := by decide +kernel
theorem i308_60 : lk (mi_ins m308) 60 = some (.invokevirtual 547, 3, []) := by decide +kernel
theorem i308_63 : lk (mi_ins m308) 63 = some (.aload_n 0, 1, []) := by decide +kernel
theorem i308_64 : lk (mi_ins m308) 64 = some (.getfield 17, 3, []) := by decide +kernel
theorem i308_67 : lk (mi_ins m308) 67 = some (.iload_n 3, 1, []) := by decide +kernel
theorem i308_68 : lk (mi_ins m308) 68 = some (.dup2, 1, []) := by decide +kernel
theorem i308_69 : lk (mi_ins m308) 69 = some (.iaload, 1, []) := by decide +kernel
theorem i308_70 : lk (mi_ins m308) 70 = some (.iconst 1, 1, []) := by decide +kernel
theorem i308_71 : lk (mi_ins m308) 71 = some (.iadd, 1, []) := by decide +kernel
theorem i308_72 : lk (mi_ins m308) 72 = some (.iastore, 1, []) := by decide +kernel
theorem i308_73 : lk (mi_ins m308) 73 = some (.aload_n 0, 1, []) := by decide +kernel
theorem i308_74 : lk (mi_ins m308) 74 = some (.aload_n 0, 1, []) := by decide +kernel
theorem i308_75 : lk (mi_ins m308) 75 = some (.getfield 17, 3, []) := by decide +kernel
theorem i308_78 : lk (mi_ins m308) 78 = some (.iload_n 3, 1, []) := by decide +kernel
theorem i308_79 : lk (mi_ins m308) 79 = some (.iaload, 1, []) := by decide +kernel
theorem i308_80 : lk (mi_ins m308) 80 = some (.invokevirtual 61, 3, []) := by decide +kernel
theorem i308_83 : lk (mi_ins m308) 83 = some (.ireturn, 1, []) := by decide +kernel
theorem i309_0 : lk (mi_ins m309) 0 = some (.aload_n 0, 1, []) := by decide +kernel
theorem i309_1 : lk (mi_ins m309) 1 = some (.getfield 365, 3, []) := by decide +kernel
theorem i309_4 : lk (mi_ins m309) 4 = some (.bipush 16, 2, []) := by decide +kernel
theorem i309_6 : lk (mi_ins m309) 6 = some (.if_icmp .ne 43, 3, []) := by decide +kernel
theorem i309_9 : lk (mi_ins m309) 9 = some (.iconst 0, 1, []) := by decide +kernel
theorem i309_10 : lk (mi_ins m309) 10 = some (.istore_n 1, 1, []) := by decide +kernel
theorem i309_11 : lk (mi_ins m309) 11 = some (.iload_n 1, 1, []) := by decide +kernel
theorem i309_12 : lk (mi_ins m309) 12 = some (.sipush 465, 3, []) := by decide +kernel
theorem i309_15 : lk (mi_ins m309) 15 = some (.if_icmp .ge 24, 3, []) := by decide +kernel
theorem i309_18 : lk (mi_ins m309) 18 = some (.aload_n 0, 1, []) := by decide +kernel
theorem i309_19 : lk (mi_ins m309) 19 = some (.getfield 24, 3, []) := by decide +kernel
theorem i309_22 : lk (mi_ins m309) 22 = some (.iload_n 1, 1, []) := by decide +kernel
theorem i309_23 : lk (mi_ins m309) 23 = some (.aload_n 0, 1, []) := by decide +kernel
theorem i309_24 : lk (mi_ins m309) 24 = some (.getfield 24, 3, []) := by decide +kernel
theorem i309_27 : lk (mi_ins m309) 27 = some (.iload_n 1, 1, []) := by decide +kernel
theorem i309_28 : lk (mi_ins m309) 28 = some (.bipush 31, 2, []) := by decide +kernel
theorem i309_30 : lk (mi_ins m309) 30 = some (.iadd, 1, []) := by decide +kernel
theorem i309_31 : lk (mi_ins m309) 31 = some (.iaload, 1, []) := by decide +kernel
theorem i309_32 : lk (mi_ins m309) 32 = some (.iastore, 1, []) := by decide +kernel
theorem i309_33 : lk (mi_ins m309) 33 = some (.iinc 1 1, 3, []) := by decide +kernel
theorem i309_36 : lk (mi_ins m309) 36 = some (.goto (-25), 3, []) := by decide +kernel
theorem i309_39 : lk (mi_ins m309) 39 = some (.aload_n 0, 1, [1]) := by decide +kernel
theorem i309_40 : lk (mi_ins m309) 40 = some (.dup, 1, []) := by decide +kernel
theorem i309_41 : lk (mi_ins m309) 41 = some (.getfield 365, 3, []) := by decide +kernel
theorem i309_44 : lk (mi_ins m309) 44 = some (.iconst 1, 1, []) := by decide +kernel
theorem i309_45 : lk (mi_ins m309) 45 = some (.isub, 1, []) := by decide +kernel
theorem i309_46 : lk (mi_ins m309) 46 = some (.putfield 365, 3, []) := by decide +kernel
theorem i309_49 : lk (mi_ins m309) 49 = some (.iconst 0, 1, [1]) := by decide +kernel
theorem i309_50 : lk (mi_ins m309) 50 = some (.istore_n 1, 1, []) := by decide +kernel
theorem i309_51 : lk (mi_ins m309) 51 = some (.iload_n 1, 1, []) := by decide +kernel
theorem i309_52 : lk (mi_ins m309) 52 = some (.bipush 31, 2, []) := by decide +kernel
theorem i309_54 : lk (mi_ins m309) 54 = some (.if_icmp .ge 29, 3, []) := by decide +kernel
theorem i309_57 : lk (mi_ins m309) 57 = some (.aload_n 0, 1, []) := by decide +kernel
theorem i309_58 : lk (mi_ins m309) 58 = some (.getfield 24, 3, []) := by decide +kernel
theorem i309_61 : lk (mi_ins m309) 61 = some (.bipush 31, 2, []) := by decide +kernel
theorem i309_63 : lk (mi_ins m309) 63 = some (.aload_n 0, 1, []) := by decide +kernel
theorem i309_64 : lk (mi_ins m309) 64 = some (.getfield 365, 3, []) := by decide +kernel
theorem i309_67 : lk (mi_ins m309) 67 = some (.imul, 1, []) := by decide +kernel
theorem i309_68 : lk (mi_ins m309) 68 = some (.iload_n 1, 1, []) := by decide +kernel
theorem i309_69 : lk (mi_ins m309) 69 = some (.iadd, 1, []) := by decide +kernel
theorem i309_70 : lk (mi_ins m309) 70 = some (.aload_n 0, 1, []) := by decide +kernel
theorem i309_71 : lk (mi_ins m309) 71 = some (.getfield 17, 3, []) := by decide +kernel
theorem i309_74 : lk (mi_ins m309) 74 = some (.iload_n 1, 1, []) := by decide +kernel
theorem i309_75 : lk (mi_ins m309) 75 = some (.iaload, 1, []) := by decide +kernel
theorem i309_76 : lk (mi_ins m309) 76 = some (.iastore, 1, []) := by decide +kernel
theorem i309_77 : lk (mi_ins m309) 77 = some (.iinc 1 1, 3, []) := by decide +kernel
theorem i309_80 : lk (mi_ins m309) 80 = some (.goto (-29), 3, []) := by decide +kernel
theorem i309_83 : lk (mi_ins m309) 83 = some (.aload_n 0, 1, [1]) := by decide +kernel
theorem i309_84 : lk (mi_ins m309) 84 = some (.dup, 1, []) := by decide +kernel
theorem i309_85 : lk (mi_ins m309) 85 = some (.getfield 365, 3, []) := by decide +kernel
theorem i309_88 : lk (mi_ins m309) 88 = some (.iconst 1, 1, []) := by decide +kernel
theorem i309_89 : lk (mi_ins m309) 89 = some (.iadd, 1, []) := by decide +kernel
theorem i309_90 : lk (mi_ins m309) 90 = some (.putfield 365, 3, []) := by decide +kernel
theorem i309_93 : lk (mi_ins m309) 93 = some (.return_, 1, []) := by decide +kernel
theorem i310_0 : lk (mi_ins m310) 0 = some (.aload_n 0, 1, []) := by decide +kernel
theorem i310_1 : lk (mi_ins m310) 1 = some (.iconst 0, 1, []) := by decide +kernel
theorem i310_2 : lk (mi_ins m310) 2 = some (.putfield 51, 3, []) := by decide +kernel
theorem i310_5 : lk (mi_ins m310) 5 = some (.aload_n 0, 1, []) := by decide +kernel
theorem i310_6 : lk (mi_ins m310) 6 = some (.iload_n 1, 1, []) := by decide +kernel
theorem i310_7 : lk (mi_ins m310) 7 = some (.invokevirtual 413, 3, []) := by decide +kernel
theorem i310_10 : lk (mi_ins m310) 10 = some (.ifCond .eq 11, 3, []) := by decide +kernel
theorem i310_13 : lk (mi_ins m310) 13 = some (.aload_n 0, 1, []) := by decide +kernel
theorem i310_14 : lk (mi_ins m310) 14 = some (.iload_n 2, 1, []) := by decide +kernel
theorem i310_15 : lk (mi_ins m310) 15 = some (.invokevirtual 404, 3, []) := by decide +kernel
theorem i310_18 : lk (mi_ins m310) 18 = some (.ifCond .ne 9, 3, []) := by decide +kernel
theorem i310_21 : lk (mi_ins m310) 21 = some (.aload_n 0, 1, [1, 2]) := by decide +kernel
theorem i310_22 : lk (mi_ins m310) 22 = some (.iconst 1, 1, []) := by decide +kernel
theorem i310_23 : lk (mi_ins m310) 23 = some (.invokevirtual 550, 3, []) := by decide +kernel
theorem i310_26 : lk (mi_ins m310) 26 = some (.ireturn, 1, []) := by decide +kernel
theorem i310_27 : lk (mi_ins m310) 27 = some (.aload_n 0, 1, []) := by decide +kernel
theorem i310_28 : lk (mi_ins m310) 28 = some (.getfield 17, 3, []) := by decide +kernel
theorem i310_31 : lk (mi_ins m310) 31 = some (.bipush 25, 2, []) := by decide +kernel
theorem i310_33 : lk (mi_ins m310) 33 = some (.iload_n 1, 1, []) := by decide +kernel
theorem i310_34 : lk (mi_ins m310) 34 = some (.iadd, 1, []) := by decide +kernel
theorem i310_35 : lk (mi_ins m310) 35 = some (.iaload, 1, []) := by decide +kernel
theorem i310_36 : lk (mi_ins m310) 36 = some (.iload_n 2, 1, []) := by decide +kernel
theorem i310_37 : lk (mi_ins m310) 37 = some (.if_icmp .ne 9, 3, []) := by decide +kernel
theorem i310_40 : lk (mi_ins m310) 40 = some (.aload_n 0, 1, []) := by decide +kernel
theorem i310_41 : lk (mi_ins m310) 41 = some (.iconst 5, 1, []) := by decide +kernel
theorem i310_42 : lk (mi_ins m310) 42 = some (.invokevirtual 550, 3, []) := by decide +kernel
theorem i310_45 : lk (mi_ins m310) 45 = some (.ireturn, 1, []) := by decide +kernel
theorem i310_46 : lk (mi_ins m310) 46 = some (.aload_n 0, 1, []) := by decide +kernel
theorem i310_47 : lk (mi_ins m310) 47 = some (.invokevirtual 547, 3, []) := by decide +kernel
theorem i310_50 : lk (mi_ins m310) 50 = some (.aload_n 0, 1, []) := by decide +kernel
theorem i310_51 : lk (mi_ins m310) 51 = some (.getfield 17, 3, []) := by decide +kernel
theorem i310_54 : lk (mi_ins m310) 54 = some (.bipush 25, 2, []) := by decide +kernel
theorem i310_56 : lk (mi_ins m310) 56 = some (.iload_n 1, 1, []) := by decide +kernel
theorem i310_57 : lk (mi_ins m310) 57 = some (.iadd, 1, []) := by decide +kernel
theorem i310_58 : lk (mi_ins m310) 58 = some (.iload_n 2, 1, []) := by decide +kernel
theorem i310_59 : lk (mi_ins m310) 59 = some (.iastore, 1, []) := by decide +kernel
theorem i310_60 : lk (mi_ins m310) 60 = some (.aload_n 0, 1, []) := by decide +kernel
theorem i310_61 : lk (mi_ins m310) 61 = some (.invokevirtual 553, 3, []) := by decide +kernel
theorem i310_64 : lk (mi_ins m310) 64 = some (.ireturn, 1, []) := by decide +kernel
theorem i311_0 : lk (mi_ins m311) 0 = some (.aload_n 0, 1, []) := by decide +kernel
theorem i311_1 : lk (mi_ins m311) 1 = some (.iload_n 1, 1, []) := by decide +kernel
theorem i311_2 : lk (mi_ins m311) 2 = some (.invokevirtual 57, 3, []) := by decide +kernel
theorem i311_5 : lk (mi_ins m311) 5 = some (.pop, 1, []) := by decide +kernel
theorem i311_6 : lk (mi_ins m311) 6 = some (.iconst 0, 1, []) := by decide +kernel
theorem i311_7 : lk (mi_ins m311) 7 = some (.ireturn, 1, []) := by decide +kernel
theorem i312_0 : lk (mi_ins m312) 0 = some (.aload_n 0, 1, []) := by decide +kernel
theorem i312_1 : lk (mi_ins m312) 1 = some (.iconst 0, 1, []) := by decide +kernel
theorem i312_2 : lk (mi_ins m312) 2 = some (.invokevirtual 61, 3, []) := by decide +kernel
theorem i312_5 : lk (mi_ins m312) 5 = some (.pop, 1, []) := by decide +kernel
theorem i312_6 : lk (mi_ins m312) 6 = some (.iconst 1, 1, []) := by decide +kernel
theorem i312_7 : lk (mi_ins m312) 7 = some (.ireturn, 1, []) := by decide +kernel
theorem i313_0 : lk (mi_ins m313) 0 = some (.aload_n 0, 1, []) := by decide +kernel
theorem i313_1 : lk (mi_ins m313) 1 = some (.iconst 0, 1, []) := by decide +kernel
theorem i313_2 : lk (mi_ins m313) 2 = some (.putfield 51, 3, []) := by decide +kernel
theorem i313_5 : lk (mi_ins m313) 5 = some (.aload_n 0, 1, []) := by decide +kernel
theorem i313_6 : lk (mi_ins m313) 6 = some (.iload_n 1, 1, []) := by decide +kernel
theorem i313_7 : lk (mi_ins m313) 7 = some (.iconst 1, 1, []) := by decide +kernel
theorem i313_8 : lk (mi_ins m313) 8 = some (.invokevirtual 556, 3, []) := by decide +kernel
theorem i313_11 : lk (mi_ins m313) 11 = some (.ireturn, 1, []) := by decide +kernel
theorem i314_0 : lk (mi_ins m314) 0 = some (.aload_n 0, 1, []) := by decide +kernel
theorem i314_1 : lk (mi_ins m314) 1 = some (.iload_n 1, 1, []) := by decide +kernel
theorem i314_2 : lk (mi_ins m314) 2 = some (.invokevirtual 416, 3, []) := by decide +kernel
theorem i314_5 : lk (mi_ins m314) 5 = some (.ifCond .ne 9, 3, []) := by decide +kernel
theorem i314_8 : lk (mi_ins m314) 8 = some (.aload_n 0, 1, []) := by decide +kernel
theorem i314_9 : lk (mi_ins m314) 9 = some (.iconst 1, 1, []) := by decide +kernel
theorem i314_10 : lk (mi_ins m314) 10 = some (.invokevirtual 550, 3, []) := by decide +kernel
theorem i314_13 : lk (mi_ins m314) 13 = some (.ireturn, 1, []) := by decide +kernel
theorem i314_14 : lk (mi_ins m314) 14 = some (.aload_n 0, 1, []) := by decide +kernel
theorem i314_15 : lk (mi_ins m314) 15 = some (.getfield 17, 3, []) := by decide +kernel
theorem i314_18 : lk (mi_ins m314) 18 = some (.bipush 28, 2, []) := by decide +kernel
theorem i314_20 : lk (mi_ins m314) 20 = some (.iaload, 1, []) := by decide +kernel
theorem i314_21 : lk (mi_ins m314) 21 = some (.iload_n 1, 1, []) := by decide +kernel
theorem i314_22 : lk (mi_ins m314) 22 = some (.invokestatic 288, 3, []) := by decide +kernel
theorem i314_25 : lk (mi_ins m314) 25 = some (.iload_n 2, 1, []) := by decide +kernel
theorem i314_26 : lk (mi_ins m314) 26 = some (.if_icmp .ne 9, 3, []) := by decide +kernel
theorem i314_29 : lk (mi_ins m314) 29 = some (.aload_n 0, 1, []) := by decide +kernel
theorem i314_30 : lk (mi_ins m314) 30 = some (.iconst 5, 1, []) := by decide +kernel
theorem i314_31 : lk (mi_ins m314) 31 = some (.invokevirtual 550, 3, []) := by decide +kernel
theorem i314_34 : lk (mi_ins m314) 34 = some (.ireturn, 1, []) := by decide +kernel
theorem i314_35 : lk (mi_ins m314) 35 = some (.aload_n 0, 1, []) := by decide +kernel
theorem i314_36 : lk (mi_ins m314) 36 = some (.invokevirtual 547, 3, []) := by decide +kernel
theorem i314_39 : lk (mi_ins m314) 39 = some (.aload_n 0, 1, []) := by decide +kernel
theorem i314_40 : lk (mi_ins m314) 40 = some (.getfield 17, 3, []) := by decide +kernel
theorem i314_43 : lk (mi_ins m314) 43 = some (.bipush 28, 2, []) := by decide +kernel
theorem i314_45 : lk (mi_ins m314) 45 = some (.dup2, 1, []) := by decide +kernel
theorem i314_46 : lk (mi_ins m314) 46 = some (.iaload, 1, []) := by decide +kernel
theorem i314_47 : lk (mi_ins m314) 47 = some (.iconst 1, 1, []) := by decide +kernel
theorem i314_48 : lk (mi_ins m314) 48 = some (.iload_n 1, 1, []) := by decide +kernel
theorem i314_49 : lk (mi_ins m314) 49 = some (.ishl, 1, []) := by decide +kernel
theorem i314_50 : lk (mi_ins m314) 50 = some (.ixor, 1, []) := by decide +kernel
theorem i314_51 : lk (mi_ins m314) 51 = some (.iastore, 1, []) := by decide +kernel
theorem i314_52 : lk (mi_ins m314) 52 = some (.aload_n 0, 1, []) := by decide +kernel
theorem i314_53 : lk (mi_ins m314) 53 = some (.invokevirtual 553, 3, []) := by decide +kernel
theorem i314_56 : lk (mi_ins m314) 56 = some (.ireturn, 1, []) := by decide +kernel
theorem i315_0 : lk (mi_ins m315) 0 = some (.aload_n 0, 1, []) := by decide +kernel
theorem i315_1 : lk (mi_ins m315) 1 = some (.iconst 0, 1, []) := by decide +kernel
theorem i315_2 : lk (mi_ins m315) 2 = some (.putfield 51, 3, []) := by decide +kernel
theorem i315_5 : lk (mi_ins m315) 5 = some (.aload_n 0, 1, []) := by decide +kernel
theorem i315_6 : lk (mi_ins m315) 6 = some (.iload_n 1, 1, []) := by decide +kernel
theorem i315_7 : lk (mi_ins m315) 7 = some (.iconst 0, 1, []) := by decide +kernel
theorem i315_8 : lk (mi_ins m315) 8 = some (.invokevirtual 556, 3, []) := by decide +kernel
theorem i315_11 : lk (mi_ins m315) 11 = some (.ireturn, 1, []) := by decide +kernel
theorem i316_0 : lk (mi_ins m316) 0 = some (.aload_n 0, 1, []) := by decide +kernel
theorem i316_1 : lk (mi_ins m316) 1 = some (.iconst 0, 1, []) := by decide +kernel
theorem i316_2 : lk (mi_ins m316) 2 = some (.putfield 51, 3, []) := by decide +kernel
theorem i316_5 : lk (mi_ins m316) 5 = some (.aload_n 0, 1, []) := by decide +kernel
theorem i316_6 : lk (mi_ins m316) 6 = some (.getfield 360, 3, []) := by decide +kernel
theorem i316_9 : lk (mi_ins m316) 9 = some (.ifnonnull 9, 3, []) := by decide +kernel
theorem i316_12 : lk (mi_ins m316) 12 = some (.aload_n 0, 1, []) := by decide +kernel
theorem i316_13 : lk (mi_ins m316) 13 = some (.iconst 1, 1, []) := by decide +kernel
theorem i316_14 : lk (mi_ins m316) 14 = some (.invokevirtual 57, 3, []) := by decide +kernel
theorem i316_17 : lk (mi_ins m316) 17 = some (.ireturn, 1, []) := by decide +kernel
theorem i316_18 : lk (mi_ins m316) 18 = some (.aload_n 0, 1, []) := by decide +kernel
theorem i316_19 : lk (mi_ins m316) 19 = some (.getfield 17, 3, []) := by decide +kernel
theorem i316_22 : lk (mi_ins m316) 22 = some (.bipush 29, 2, []) := by decide +kernel
theorem i316_24 : lk (mi_ins m316) 24 = some (.iaload, 1, []) := by decide +kernel
theorem i316_25 : lk (mi_ins m316) 25 = some (.sipush 999, 3, []) := by decide +kernel
theorem i316_28 : lk (mi_ins m316) 28 = some (.if_icmp .ne 9, 3, []) := by decide +kernel
theorem i316_31 : lk (mi_ins m316) 31 = some (.aload_n 0, 1, []) := by decide +kernel
theorem i316_32 : lk (mi_ins m316) 32 = some (.iconst 3, 1, []) := by decide +kernel
theorem i316_33 : lk (mi_ins m316) 33 = some (.invokevirtual 57, 3, []) := by decide +kernel
theorem i316_36 : lk (mi_ins m316) 36 = some (.ireturn, 1, []) := by decide +kernel
theorem i316_37 : lk (mi_ins m316) 37 = some (.aload_n 0, 1, []) := by decide +kernel
theorem i316_38 : lk (mi_ins m316) 38 = some (.invokevirtual 547, 3, []) := by decide +kernel
theorem i316_41 : lk (mi_ins m316) 41 = some (.aload_n 0, 1, []) := by decide +kernel
theorem i316_42 : lk (mi_ins m316) 42 = some (.invokevirtual 407, 3, []) := by decide +kernel
theorem i316_45 : lk (mi_ins m316) 45 = some (.aload_n 0, 1, []) := by decide +kernel
theorem i316_46 : lk (mi_ins m316) 46 = some (.invokevirtual 536, 3, []) := by decide +kernel
theorem i316_49 : lk (mi_ins m316) 49 = some (.iconst 0, 1, []) := by decide +kernel
theorem i316_50 : lk (mi_ins m316) 50 = some (.istore_n 1, 1, []) := by decide +kernel
theorem i316_51 : lk (mi_ins m316) 51 = some (.iload_n 1, 1, []) := by decide +kernel
theorem i316_52 : lk (mi_ins m316) 52 = some (.bipush 31, 2, []) := by decide +kernel
theorem i316_54 : lk (mi_ins m316) 54 = some (.if_icmp .ge 21, 3, []) := by decide +kernel
theorem i316_57 : lk (mi_ins m316) 57 = some (.aload_n 0, 1, []) := by decide +kernel
theorem i316_58 : lk (mi_ins m316) 58 = some (.getfield 17, 3, []) := by decide +kernel
theorem i316_61 : lk (mi_ins m316) 61 = some (.iload_n 1, 1, []) := by decide +kernel
theorem i316_62 : lk (mi_ins m316) 62 = some (.aload_n 0, 1, []) := by decide +kernel
theorem i316_63 : lk (mi_ins m316) 63 = some (.getfield 21, 3, []) := by decide +kernel
theorem i316_66 : lk (mi_ins m316) 66 = some (.iload_n 1, 1, []) := by decide +kernel
theorem i316_67 : lk (mi_ins m316) 67 = some (.iaload, 1, []) := by decide +kernel
theorem i316_68 : lk (mi_ins m316) 68 = some (.iastore, 1, []) := by decide +kernel
theorem i316_69 : lk (mi_ins m316) 69 = some (.iinc 1 1, 3, []) := by decide +kernel
theorem i316_72 : lk (mi_ins m316) 72 = some (.goto (-21), 3, []) := by decide +kernel
theorem i316_75 : lk (mi_ins m316) 75 = some (.aload_n 0, 1, [1]) := by decide +kernel
theorem i316_76 : lk (mi_ins m316) 76 = some (.getfield 17, 3, []) := by decide +kernel
theorem i316_79 : lk (mi_ins m316) 79 = some (.bipush 29, 2, []) := by decide +kernel
theorem i316_81 : lk (mi_ins m316) 81 = some (.dup2, 1, []) := by decide +kernel
theorem i316_82 : lk (mi_ins m316) 82 = some (.iaload, 1, []) := by decide +kernel
theorem i316_83 : lk (mi_ins m316) 83 = some (.iconst 1, 1, []) := by decide +kernel
theorem i316_84 : lk (mi_ins m316) 84 = some (.iadd, 1, []) := by decide +kernel
theorem i316_85 : lk (mi_ins m316) 85 = some (.iastore, 1, []) := by decide +kernel
theorem i316_86 : lk (mi_ins m316) 86 = some (.aload_n 0, 1, []) := by decide +kernel
theorem i316_87 : lk (mi_ins m316) 87 = some (.aload_n 0, 1, []) := by decide +kernel
theorem i316_88 : lk (mi_ins m316) 88 = some (.invokevirtual 419, 3, []) := by decide +kernel
theorem i316_91 : lk (mi_ins m316) 91 = some (.invokevirtual 61, 3, []) := by decide +kernel
theorem i316_94 : lk (mi_ins m316) 94 = some (.ireturn, 1, []) := by decide +kernel
theorem i317_0 : lk (mi_ins m317) 0 = some (.aload_n 0, 1, []) := by decide +kernel
theorem i317_1 : lk (mi_ins m317) 1 = some (.iconst 0, 1, []) := by decide +kernel
theorem i317_2 : lk (mi_ins m317) 2 = some (.putfield 51, 3, []) := by decide +kernel
theorem i317_5 : lk (mi_ins m317) 5 = some (.aload_n 0, 1, []) := by decide +kernel
theorem i317_6 : lk (mi_ins m317) 6 = some (.getfield 360, 3, []) := by decide +kernel
theorem i317_9 : lk (mi_ins m317) 9 = some (.ifnonnull 9, 3, []) := by decide +kernel
theorem i317_12 : lk (mi_ins m317) 12 = some (.aload_n 0, 1, []) := by decide +kernel
theorem i317_13 : lk (mi_ins m317) 13 = some (.iconst 1, 1, []) := by decide +kernel
theorem i317_14 : lk (mi_ins m317) 14 = some (.invokevirtual 550, 3, []) := by decide +kernel
theorem i317_17 : lk (mi_ins m317) 17 = some (.ireturn, 1, []) := by decide +kernel
theorem i317_18 : lk (mi_ins m317) 18 = some (.iload_n 1, 1, []) := by decide +kernel
theorem i317_19 : lk (mi_ins m317) 19 = some (.iconst 0, 1, []) := by decide +kernel
theorem i317_20 : lk (mi_ins m317) 20 = some (.ldc_w 539, 3, []) := by decide +kernel
theorem i317_23 : lk (mi_ins m317) 23 = some (.invokestatic 130, 3, []) := by decide +kernel
theorem i317_26 : lk (mi_ins m317) 26 = some (.ifCond .ne 9, 3, []) := by decide +kernel
theorem i317_29 : lk (mi_ins m317) 29 = some (.aload_n 0, 1, []) := by decide +kernel
theorem i317_30 : lk (mi_ins m317) 30 = some (.iconst 2, 1, []) := by decide +kernel
theorem i317_31 : lk (mi_ins m317) 31 = some (.invokevirtual 550, 3, []) := by decide +kernel
theorem i317_34 : lk (mi_ins m317) 34 = some (.ireturn, 1, []) := by decide +kernel
theorem i317_35 : lk (mi_ins m317) 35 = some (.aload_n 0, 1, []) := by decide +kernel
theorem i317_36 : lk (mi_ins m317) 36 = some (.getfield 17, 3, []) := by decide +kernel
theorem i317_39 : lk (mi_ins m317) 39 = some (.bipush 30, 2, []) := by decide +kernel
theorem i317_41 : lk (mi_ins m317) 41 = some (.iload_n 1, 1, []) := by decide +kernel
theorem i317_42 : lk (mi_ins m317) 42 = some (.iastore, 1, []) := by decide +kernel
theorem i317_43 : lk (mi_ins m317) 43 = some (.aload_n 0, 1, []) := by decide +kernel
theorem i317_44 : lk (mi_ins m317) 44 = some (.invokevirtual 553, 3, []) := by decide +kernel
theorem i317_47 : lk (mi_ins m317) 47 = some (.ireturn, 1, []) := by decide +kernel
theorem i318_0 : lk (mi_ins m318) 0 = some (.aload_n 0, 1, []) := by decide +kernel
theorem i318_1 : lk (mi_ins m318) 1 = some (.iconst 0, 1, []) := by decide +kernel
theorem i318_2 : lk (mi_ins m318) 2 = some (.putfield 51, 3, []) := by decide +kernel
theorem i318_5 : lk (mi_ins m318) 5 = some (.aload_n 0, 1, []) := by decide +kernel
theorem i318_6 : lk (mi_ins m318) 6 = some (.getfield 360, 3, []) := by decide +kernel
theorem i318_9 : lk (mi_ins m318) 9 = some (.ifnull 10, 3, []) := by decide +kernel
theorem i318_12 : lk (mi_ins m318) 12 = some (.aload_n 0, 1, []) := by decide +kernel
theorem i318_13 : lk (mi_ins m318) 13 = some (.getfield 365, 3, []) := by decide +kernel
theorem i318_16 : lk (mi_ins m318) 16 = some (.ifCond .ne 10, 3, []) := by decide +kernel
theorem i318_19 : lk (mi_ins m318) 19 = some (.aload_n 0, 1, [1]) := by decide +kernel
theorem i318_20 : lk (mi_ins m318) 20 = some (.bipush 6, 2, []) := by decide +kernel
theorem i318_22 : lk (mi_ins m318) 22 = some (.invokevirtual 550, 3, []) := by decide +kernel
theorem i318_25 : lk (mi_ins m318) 25 = some (.ireturn, 1, []) := by decide +kernel
theorem i318_26 : lk (mi_ins m318) 26 = some (.aload_n 0, 1, []) := by decide +kernel
theorem i318_27 : lk (mi_ins m318) 27 = some (.dup, 1, []) := by decide +kernel
theorem i318_28 : lk (mi_ins m318) 28 = some (.getfield 365, 3, []) := by decide +kernel
theorem i318_31 : lk (mi_ins m318) 31 = some (.iconst 1, 1, []) := by decide +kernel
theorem i318_32 : lk (mi_ins m318) 32 = some (.isub, 1, []) := by decide +kernel
theorem i318_33 : lk (mi_ins m318) 33 = some (.putfield 365, 3, []) := by decide +kernel
theorem i318_36 : lk (mi_ins m318) 36 = some (.iconst 0, 1, []) := by decide +kernel
theorem i318_37 : lk (mi_ins m318) 37 = some (.istore_n 1, 1, []) := by decide +kernel
theorem i318_38 : lk (mi_ins m318) 38 = some (.iload_n 1, 1, []) := by decide +kernel
theorem i318_39 : lk (mi_ins m318) 39 = some (.bipush 31, 2, []) := by decide +kernel
theorem i318_41 : lk (mi_ins m318) 41 = some (.if_icmp .ge 29, 3, []) := by decide +kernel
theorem i318_44 : lk (mi_ins m318) 44 = some (.aload_n 0, 1, []) := by decide +kernel
theorem i318_45 : lk (mi_ins m318) 45 = some (.getfield 17, 3, []) := by decide +kernel
theorem i318_48 : lk (mi_ins m318) 48 = some (.iload_n 1, 1, []) := by decide +kernel
theorem i318_49 : lk (mi_ins m318) 49 = some (.aload_n 0, 1, []) := by decide +kernel
theorem i318_50 : lk (mi_ins m318) 50 = some (.getfield 24, 3, []) := by decide +kernel
theorem i318_53 : lk (mi_ins m318) 53 = some (.bipush 31, 2, []) := by decide +kernel
theorem i318_55 : lk (mi_ins m318) 55 = some (.aload_n 0, 1, []) := by decide +kernel
theorem i318_56 : lk (mi_ins m318) 56 = some (.getfield 365, 3, []) := by decide +kernel
theorem i318_59 : lk (mi_ins m318) 59 = some (.imul, 1, []) := by decide +kernel
theorem i318_60 : lk (mi_ins m318) 60 = some (.iload_n 1, 1, []) := by decide +kernel
theorem i318_61 : lk (mi_ins m318) 61 = some (.iadd, 1, []) := by decide +kernel
theorem i318_62 : lk (mi_ins m318) 62 = some (.iaload, 1, []) := by decide +kernel
theorem i318_63 : lk (mi_ins m318) 63 = some (.iastore, 1, []) := by decide +kernel
theorem i318_64 : lk (mi_ins m318) 64 = some (.iinc 1 1, 3, []) := by decide +kernel
theorem i318_67 : lk (mi_ins m318) 67 = some (.goto (-29), 3, []) := by decide +kernel
theorem i318_70 : lk (mi_ins m318) 70 = some (.aload_n 0, 1, [1]) := by decide +kernel
theorem i318_71 : lk (mi_ins m318) 71 = some (.invokevirtual 553, 3, []) := by decide +kernel
theorem i318_74 : lk (mi_ins m318) 74 = some (.ireturn, 1, []) := by decide +kernel
theorem i319_0 : lk (mi_ins m319) 0 = some (.aload_n 0, 1, []) := by decide +kernel
theorem i319_1 : lk (mi_ins m319) 1 = some (.iconst 0, 1, []) := by decide +kernel
theorem i319_2 : lk (mi_ins m319) 2 = some (.putfield 51, 3, []) := by decide +kernel
theorem i319_5 : lk (mi_ins m319) 5 = some (.aload_n 0, 1, []) := by decide +kernel
theorem i319_6 : lk (mi_ins m319) 6 = some (.getfield 360, 3, []) := by decide +kernel
theorem i319_9 : lk (mi_ins m319) 9 = some (.ifnonnull 9, 3, []) := by decide +kernel
theorem i319_12 : lk (mi_ins m319) 12 = some (.aload_n 0, 1, []) := by decide +kernel
theorem i319_13 : lk (mi_ins m319) 13 = some (.iconst 1, 1, []) := by decide +kernel
theorem i319_14 : lk (mi_ins m319) 14 = some (.invokevirtual 57, 3, []) := by decide +kernel
theorem i319_17 : lk (mi_ins m319) 17 = some (.ireturn, 1, []) := by decide +kernel
theorem i319_18 : lk (mi_ins m319) 18 = some (.aload_n 0, 1, []) := by decide +kernel
theorem i319_19 : lk (mi_ins m319) 19 = some (.getfield 368, 3, []) := by decide +kernel
theorem i319_22 : lk (mi_ins m319) 22 = some (.iconst 3, 1, []) := by decide +kernel
theorem i319_23 : lk (mi_ins m319) 23 = some (.if_icmp .ne 9, 3, []) := by decide +kernel
theorem i319_26 : lk (mi_ins m319) 26 = some (.aload_n 0, 1, []) := by decide +kernel
theorem i319_27 : lk (mi_ins m319) 27 = some (.iconst 3, 1, []) := by decide +kernel
theorem i319_28 : lk (mi_ins m319) 28 = some (.invokevirtual 57, 3, []) := by decide +kernel
theorem i319_31 : lk (mi_ins m319) 31 = some (.ireturn, 1, []) := by decide +kernel
theorem i319_32 : lk (mi_ins m319) 32 = some (.iconst 0, 1, []) := by decide +kernel
theorem i319_33 : lk (mi_ins m319) 33 = some (.istore_n 1, 1, []) := by decide +kernel
theorem i319_34 : lk (mi_ins m319) 34 = some (.iload_n 1, 1, []) := by decide +kernel
theorem i319_35 : lk (mi_ins m319) 35 = some (.bipush 31, 2, []) := by decide +kernel
theorem i319_37 : lk (mi_ins m319) 37 = some (.if_icmp .ge 29, 3, []) := by decide +kernel
theorem i319_40 : lk (mi_ins m319) 40 = some (.aload_n 0, 1, []) := by decide +kernel
theorem i319_41 : lk (mi_ins m319) 41 = some (.getfield 27, 3, []) := by decide +kernel
theorem i319_44 : lk (mi_ins m319) 44 = some (.bipush 31, 2, []) := by decide +kernel
theorem i319_46 : lk (mi_ins m319) 46 = some (.aload_n 0, 1, []) := by decide +kernel
theorem i319_47 : lk (mi_ins m319) 47 = some (.getfield 368, 3, []) := by decide +kernel
theorem i319_50 : lk (mi_ins m319) 50 = some (.imul, 1, []) := by decide +kernel
theorem i319_51 : lk (mi_ins m319) 51 = some (.iload_n 1, 1, []) := by decide +kernel
theorem i319_52 : lk (mi_ins m319) 52 = some (.iadd, 1, []) := by decide +kernel
theorem i319_53 : lk (mi_ins m319) 53 = some (.aload_n 0, 1, []) := by decide +kernel
theorem i319_54 : lk (mi_ins m319) 54 = some (.getfield 17, 3, []) := by decide +kernel
theorem i319_57 : lk (mi_ins m319) 57 = some (.iload_n 1, 1, []) := by decide +kernel
theorem i319_58 : lk (mi_ins m319) 58 = some (.iaload, 1, []) := by decide +kernel
theorem i319_59 : lk (mi_ins m319) 59 = some (.iastore, 1, []) := by decide +kernel
theorem i319_60 : lk (mi_ins m319) 60 = some (.iinc 1 1, 3, []) := by decide +kernel
theorem i319_63 : lk (mi_ins m319) 63 = some (.goto (-29), 3, []) := by decide +kernel
theorem i319_66 : lk (mi_ins m319) 66 = some (.aload_n 0, 1, [1]) := by decide +kernel
theorem i319_67 : lk (mi_ins m319) 67 = some (.dup, 1, []) := by decide +kernel
theorem i319_68 : lk (mi_ins m319) 68 = some (.getfield 368, 3, []) := by decide +kernel
theorem i319_71 : lk (mi_ins m319) 71 = some (.iconst 1, 1, []) := by decide +kernel
theorem i319_72 : lk (mi_ins m319) 72 = some (.iadd, 1, []) := by decide +kernel
theorem i319_73 : lk (mi_ins m319) 73 = some (.putfield 368, 3, []) := by decide +kernel
theorem i319_76 : lk (mi_ins m319) 76 = some (.aload_n 0, 1, []) := by decide +kernel
theorem i319_77 : lk (mi_ins m319) 77 = some (.aload_n 0, 1, []) := by decide +kernel
theorem i319_78 : lk (mi_ins m319) 78 = some (.getfield 368, 3, []) := by decide +kernel
theorem i319_81 : lk (mi_ins m319) 81 = some (.iconst 1, 1, []) := by decide +kernel
theorem i319_82 : lk (mi_ins m319) 82 = some (.isub, 1, []) := by decide +kernel
theorem i319_83 : lk (mi_ins m319) 83 = some (.invokevirtual 61, 3, []) := by decide +kernel
theorem i319_86 : lk (mi_ins m319) 86 = some (.ireturn, 1, []) := by decide +kernel
theorem i320_0 : lk (mi_ins m320) 0 = some (.aload_n 0, 1, []) := by decide +kernel
theorem i320_1 : lk (mi_ins m320) 1 = some (.iconst 0, 1, []) := by decide +kernel
theorem i320_2 : lk (mi_ins m320) 2 = some (.putfield 51, 3, []) := by decide +kernel
theorem i320_5 : lk (mi_ins m320) 5 = some (.aload_n 0, 1, []) := by decide +kernel
theorem i320_6 : lk (mi_ins m320) 6 = some (.getfield 360, 3, []) := by decide +kernel
theorem i320_9 : lk (mi_ins m320) 9 = some (.ifnull 15, 3, []) := by decide +kernel
theorem i320_12 : lk (mi_ins m320) 12 = some (.iload_n 1, 1, []) := by decide +kernel
theorem i320_13 : lk (mi_ins m320) 13 = some (.ifCond .lt 11, 3, []) := by decide +kernel
theorem i320_16 : lk (mi_ins m320) 16 = some (.iload_n 1, 1, []) := by decide +kernel
theorem i320_17 : lk (mi_ins m320) 17 = some (.aload_n 0, 1, []) := by decide +kernel
theorem i320_18 : lk (mi_ins m320) 18 = some (.getfield 368, 3, []) := by decide +kernel
theorem i320_21 : lk (mi_ins m320) 21 = some (.if_icmp .lt 9, 3, []) := by decide +kernel
theorem i320_24 : lk (mi_ins m320) 24 = some (.aload_n 0, 1, [1, 2]) := by decide +kernel
theorem i320_25 : lk (mi_ins m320) 25 = some (.iconst 1, 1, []) := by decide +kernel
theorem i320_26 : lk (mi_ins m320) 26 = some (.invokevirtual 550, 3, []) := by decide +kernel
theorem i320_29 : lk (mi_ins m320) 29 = some (.ireturn, 1, []) := by decide +kernel
theorem i320_30 : lk (mi_ins m320) 30 = some (.iconst 0, 1, []) := by decide +kernel
theorem i320_31 : lk (mi_ins m320) 31 = some (.istore_n 2, 1, []) := by decide +kernel
theorem i320_32 : lk (mi_ins m320) 32 = some (.iload_n 2, 1, []) := by decide +kernel
theorem i320_33 : lk (mi_ins m320) 33 = some (.bipush 31, 2, []) := by decide +kernel
theorem i320_35 : lk (mi_ins m320) 35 = some (.if_icmp .ge 26, 3, []) := by decide +kernel
theorem i320_38 : lk (mi_ins m320) 38 = some (.aload_n 0, 1, []) := by decide +kernel
theorem i320_39 : lk (mi_ins m320) 39 = some (.getfield 17, 3, []) := by decide +kernel
theorem i320_42 : lk (mi_ins m320) 42 = some (.iload_n 2, 1, []) := by decide +kernel
theorem i320_43 : lk (mi_ins m320) 43 = some (.aload_n 0, 1, []) := by decide +kernel
theorem i320_44 : lk (mi_ins m320) 44 = some (.getfield 27, 3, []) := by decide +kernel
theorem i320_47 : lk (mi_ins m320) 47 = some (.bipush 31, 2, []) := by decide +kernel
theorem i320_49 : lk (mi_ins m320) 49 = some (.iload_n 1, 1, []) := by decide +kernel
theorem i320_50 : lk (mi_ins m320) 50 = some (.imul, 1, []) := by decide +kernel
theorem i320_51 : lk (mi_ins m320) 51 = some (.iload_n 2, 1, []) := by decide +kernel
theorem i320_52 : lk (mi_ins m320) 52 = some (.iadd, 1, []) := by decide +kernel
theorem i320_53 : lk (mi_ins m320) 53 = some (.iaload, 1, []) := by decide +kernel
theorem i320_54 : lk (mi_ins m320) 54 = some (.iastore, 1, []) := by decide +kernel
theorem i320_55 : lk (mi_ins m320) 55 = some (.iinc 2 1, 3, []) := by decide +kernel
theorem i320_58 : lk (mi_ins m320) 58 = some (.goto (-26), 3, []) := by decide +kernel
theorem i320_61 : lk (mi_ins m320) 61 = some (.aload_n 0, 1, [1, 2]) := by decide +kernel
theorem i320_62 : lk (mi_ins m320) 62 = some (.iconst 0, 1, []) := by decide +kernel
theorem i320_63 : lk (mi_ins m320) 63 = some (.putfield 365, 3, []) := by decide +kernel
theorem i320_66 : lk (mi_ins m320) 66 = some (.aload_n 0, 1, []) := by decide +kernel
theorem i320_67 : lk (mi_ins m320) 67 = some (.invokevirtual 553, 3, []) := by decide +kernel
theorem i320_70 : lk (mi_ins m320) 70 = some (.ireturn, 1, []) := by decide +kernel
theorem i321_0 : lk (mi_ins m321) 0 = some (.aload_n 0, 1, []) := by decide +kernel
theorem i321_1 : lk (mi_ins m321) 1 = some (.iconst 0, 1, []) := by decide +kernel
theorem i321_2 : lk (mi_ins m321) 2 = some (.putfield 51, 3, []) := by decide +kernel
theorem i321_5 : lk (mi_ins m321) 5 = some (.iconst 0, 1, []) := by decide +kernel
theorem i321_6 : lk (mi_ins m321) 6 = some (.istore_n 2, 1, []) := by decide +kernel
theorem i321_7 : lk (mi_ins m321) 7 = some (.aload_n 0, 1, []) := by decide +kernel
theorem i321_8 : lk (mi_ins m321) 8 = some (.getfield 360, 3, []) := by decide +kernel
theorem i321_11 : lk (mi_ins m321) 11 = some (.ifnull 7, 3, []) := by decide +kernel
theorem i321_14 : lk (mi_ins m321) 14 = some (.aload_n 0, 1, []) := by decide +kernel
theorem i321_15 : lk (mi_ins m321) 15 = some (.invokevirtual 407, 3, []) := by decide +kernel
theorem i321_18 : lk (mi_ins m321) 18 = some (.iconst 0, 1, [3]) := by decide +kernel
theorem i321_19 : lk (mi_ins m321) 19 = some (.istore_n 3, 1, []) := by decide +kernel
theorem i321_20 : lk (mi_ins m321) 20 = some (.aload_n 0, 1, []) := by decide +kernel
theorem i321_21 : lk (mi_ins m321) 21 = some (.getfield 360, 3, []) := by decide +kernel
theorem i321_24 : lk (mi_ins m321) 24 = some (.ifnull 41, 3, []) := by decide +kernel
theorem i321_27 : lk (mi_ins m321) 27 = some (.iload_n 3, 1, []) := by decide +kernel
theorem i321_28 : lk (mi_ins m321) 28 = some (.aload_n 0, 1, []) := by decide +kernel
theorem i321_29 : lk (mi_ins m321) 29 = some (.getfield 360, 3, []) := by decide +kernel
theorem i321_32 : lk (mi_ins m321) 32 = some (.getfield 209, 3, []) := by decide +kernel
theorem i321_35 : lk (mi_ins m321) 35 = some (.if_icmp .ge 30, 3, []) := by decide +kernel
theorem i321_38 : lk (mi_ins m321) 38 = some (.aload_n 0, 1, []) := by decide +kernel
theorem i321_39 : lk (mi_ins m321) 39 = some (.iload_n 3, 1, []) := by decide +kernel
theorem i321_40 : lk (mi_ins m321) 40 = some (.invokevirtual 398, 3, []) := by decide +kernel
theorem i321_43 : lk (mi_ins m321) 43 = some (.ifCond .lt 6, 3, []) := by decide +kernel
theorem i321_46 : lk (mi_ins m321) 46 = some (.goto 13, 3, []) := by decide +kernel
theorem i321_49 : lk (mi_ins m321) 49 = some (.iload_n 2, 1, []) := by decide +kernel
theorem i321_50 : lk (mi_ins m321) 50 = some (.iload_n 1, 1, []) := by decide +kernel
theorem i321_51 : lk (mi_ins m321) 51 = some (.if_icmp .ne 5, 3, []) := by decide +kernel
theorem i321_54 : lk (mi_ins m321) 54 = some (.iload_n 3, 1, []) := by decide +kernel
theorem i321_55 : lk (mi_ins m321) 55 = some (.ireturn, 1, []) := by decide +kernel
theorem i321_56 : lk (mi_ins m321) 56 = some (.iinc 2 1, 3, []) := by decide +kernel
theorem i321_59 : lk (mi_ins m321) 59 = some (.iinc 3 1, 3, []) := by decide +kernel
theorem i321_62 : lk (mi_ins m321) 62 = some (.goto (-42), 3, []) := by decide +kernel
theorem i321_65 : lk (mi_ins m321) 65 = some (.aload_n 0, 1, [1, 2, 3]) := by decide +kernel
theorem i321_66 : lk (mi_ins m321) 66 = some (.iconst 1, 1, []) := by decide +kernel
theorem i321_67 : lk (mi_ins m321) 67 = some (.putfield 51, 3, []) := by decide +kernel
theorem i321_70 : lk (mi_ins m321) 70 = some (.iconst 0, 1, []) := by decide +kernel
theorem i321_71 : lk (mi_ins m321) 71 = some (.ireturn, 1, []) := by decide +kernel
theorem i322_0 : lk (mi_ins m322) 0 = some (.aload_n 0, 1, []) := by decide +kernel
theorem i322_1 : lk (mi_ins m322) 1 = some (.iconst 0, 1, []) := by decide +kernel
theorem i322_2 : lk (mi_ins m322) 2 = some (.putfield 51, 3, []) := by decide +kernel
theorem i322_5 : lk (mi_ins m322) 5 = some (.iload_n 1, 1, []) := by decide +kernel
theorem i322_6 : lk (mi_ins m322) 6 = some (.bipush 12, 2, []) := by decide +kernel
theorem i322_8 : lk (mi_ins m322) 8 = some (.if_icmp .ne 8, 3, []) := by decide +kernel
theorem i322_11 : lk (mi_ins m322) 11 = some (.aload_n 0, 1, []) := by decide +kernel
theorem i322_12 : lk (mi_ins m322) 12 = some (.getfield 353, 3, []) := by decide +kernel
theorem i322_15 : lk (mi_ins m322) 15 = some (.ireturn, 1, []) := by decide +kernel
theorem i322_16 : lk (mi_ins m322) 16 = some (.iload_n 1, 1, []) := by decide +kernel
theorem i322_17 : lk (mi_ins m322) 17 = some (.iconst 0, 1, []) := by decide +kernel
theorem i322_18 : lk (mi_ins m322) 18 = some (.bipush 11, 2, []) := by decide +kernel
theorem i322_20 : lk (mi_ins m322) 20 = some (.invokestatic 130, 3, []) := by decide +kernel
theorem i322_23 : lk (mi_ins m322) 23 = some (.ifCond .ne 5, 3, []) := by decide +kernel
theorem i322_26 : lk (mi_ins m322) 26 = some (.iconst (-1), 1, []) := by decide +kernel
theorem i322_27 : lk (mi_ins m322) 27 = some (.ireturn, 1, []) := by decide +kernel
theorem i322_28 : lk (mi_ins m322) 28 = some (.aload_n 0, 1, []) := by decide +kernel
theorem i322_29 : lk (mi_ins m322) 29 = some (.getfield 360, 3, []) := by decide +kernel
theorem i322_32 : lk (mi_ins m322) 32 = some (.ifnonnull 5, 3, []) := by decide +kernel
theorem i322_35 : lk (mi_ins m322) 35 = some (.iconst 0, 1, []) := by decide +kernel
theorem i322_36 : lk (mi_ins m322) 36 = some (.ireturn, 1, []) := by decide +kernel
theorem i322_37 : lk (mi_ins m322) 37 = some (.iload_n 1, 1, []) := by decide +kernel
theorem i322_38 : lk (mi_ins m322) 38 = some (.tableswitch 143 0 10 #[58, 66, 74, 82, 90, 98, 106, 114, 122, 130, 138], 58, []) := by decide +kernel
theorem i322_96 : lk (mi_ins m322) 96 = some (.aload_n 0, 1, []) := by decide +kernel
theorem i322_97 : lk (mi_ins m322) 97 = some (.getfield 360, 3, []) := by decide +kernel
theorem i322_100 : lk (mi_ins m322) 100 = some (.getfield 164, 3, []) := by decide +kernel
theorem i322_103 : lk (mi_ins m322) 103 = some (.ireturn, 1, []) := by decide +kernel
theorem i322_104 : lk (mi_ins m322) 104 = some (.aload_n 0, 1, []) := by decide +kernel
theorem i322_105 : lk (mi_ins m322) 105 = some (.getfield 360, 3, []) := by decide +kernel
theorem i322_108 : lk (mi_ins m322) 108 = some (.getfield 209, 3, []) := by decide +kernel
theorem i322_111 : lk (mi_ins m322) 111 = some (.ireturn, 1, []) := by decide +kernel
theorem i322_112 : lk (mi_ins m322) 112 = some (.aload_n 0, 1, []) := by decide +kernel
theorem i322_113 : lk (mi_ins m322) 113 = some (.getfield 360, 3, []) := by decide +kernel
theorem i322_116 : lk (mi_ins m322) 116 = some (.getfield 266, 3, []) := by decide +kernel
theorem i322_119 : lk (mi_ins m322) 119 = some (.ireturn, 1, []) := by decide +kernel
theorem i322_120 : lk (mi_ins m322) 120 = some (.aload_n 0, 1, []) := by decide +kernel
theorem i322_121 : lk (mi_ins m322) 121 = some (.getfield 360, 3, []) := by decide +kernel
theorem i322_124 : lk (mi_ins m322) 124 = some (.getfield 293, 3, []) := by decide +kernel
theorem i322_127 : lk (mi_ins m322) 127 = some (.ireturn, 1, []) := by decide +kernel
theorem i322_128 : lk (mi_ins m322) 128 = some (.aload_n 0, 1, []) := by decide +kernel
theorem i322_129 : lk (mi_ins m322) 129 = some (.getfield 360, 3, []) := by decide +kernel
theorem i322_132 : lk (mi_ins m322) 132 = some (.getfield 302, 3, []) := by decide +kernel
theorem i322_135 : lk (mi_ins m322) 135 = some (.ireturn, 1, []) := by decide +kernel
theorem i322_136 : lk (mi_ins m322) 136 = some (.aload_n 0, 1, []) := by decide +kernel
theorem i322_137 : lk (mi_ins m322) 137 = some (.getfield 360, 3, []) := by decide +kernel
theorem i322_140 : lk (mi_ins m322) 140 = some (.getfield 312, 3, []) := by decide +kernel
theorem i322_143 : lk (mi_ins m322) 143 = some (.ireturn, 1, []) := by decide +kernel
theorem i322_144 : lk (mi_ins m322) 144 = some (.aload_n 0, 1, []) := by decide +kernel
theorem i322_145 : lk (mi_ins m322) 145 = some (.getfield 360, 3, []) := by decide +kernel
theorem i322_148 : lk (mi_ins m322) 148 = some (.getfield 327, 3, []) := by decide +kernel
theorem i322_151 : lk (mi_ins m322) 151 = some (.ireturn, 1, []) := by decide +kernel
theorem i322_152 : lk (mi_ins m322) 152 = some (.aload_n 0, 1, []) := by decide +kernel
theorem i322_153 : lk (mi_ins m322) 153 = some (.getfield 360, 3, []) := by decide +kernel
theorem i322_156 : lk (mi_ins m322) 156 = some (.getfield 348, 3, []) := by decide +kernel
theorem i322_159 : lk (mi_ins m322) 159 = some (.ireturn, 1, []) := by decide +kernel
theorem i322_160 : lk (mi_ins m322) 160 = some (.aload_n 0, 1, []) := by decide +kernel
theorem i322_161 : lk (mi_ins m322) 161 = some (.getfield 17, 3, []) := by decide +kernel
theorem i322_164 : lk (mi_ins m322) 164 = some (.bipush 29, 2, []) := by decide +kernel
theorem i322_166 : lk (mi_ins m322) 166 = some (.iaload, 1, []) := by decide +kernel
theorem i322_167 : lk (mi_ins m322) 167 = some (.ireturn, 1, []) := by decide +kernel
theorem i322_168 : lk (mi_ins m322) 168 = some (.aload_n 0, 1, []) := by decide +kernel
theorem i322_169 : lk (mi_ins m322) 169 = some (.getfield 17, 3, []) := by decide +kernel
theorem i322_172 : lk (mi_ins m322) 172 = some (.bipush 30, 2, []) := by decide +kernel
theorem i322_174 : lk (mi_ins m322) 174 = some (.iaload, 1, []) := by decide +kernel
theorem i322_175 : lk (mi_ins m322) 175 = some (.ireturn, 1, []) := by decide +kernel
theorem i322_176 : lk (mi_ins m322) 176 = some (.aload_n 0, 1, []) := by decide +kernel
theorem i322_177 : lk (mi_ins m322) 177 = some (.getfield 365, 3, []) := by decide +kernel
theorem i322_180 : lk (mi_ins m322) 180 = some (.ireturn, 1, []) := by decide +kernel
theorem i322_181 : lk (mi_ins m322) 181 = some (.aload_n 0, 1, []) := by decide +kernel
theorem i322_182 : lk (mi_ins m322) 182 = some (.getfield 368, 3, []) := by decide +kernel
theorem i322_185 : lk (mi_ins m322) 185 = some (.ireturn, 1, []) := by decide +kernel
theorem i323_0 : lk (mi_ins m323) 0 = some (.aload_n 0, 1, []) := by decide +kernel
theorem i323_1 : lk (mi_ins m323) 1 = some (.iconst 0, 1, []) := by decide +kernel
theorem i323_2 : lk (mi_ins m323) 2 = some (.putfield 51, 3, []) := by decide +kernel
theorem i323_5 : lk (mi_ins m323) 5 = some (.aload_n 0, 1, []) := by decide +kernel
theorem i323_6 : lk (mi_ins m323) 6 = some (.getfield 54, 3, []) := by decide +kernel
theorem i323_9 : lk (mi_ins m323) 9 = some (.ireturn, 1, []) := by decide +kernel
