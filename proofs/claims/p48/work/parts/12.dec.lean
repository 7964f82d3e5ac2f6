section PD2
theorem dX8_cut_33 : decode cX8_cut 33 = .ok (.invokevirtual 195, 3) := by decide +kernel
theorem dX8_cut_36 : decode cX8_cut 36 = .ok (.istore 6, 2) := by decide +kernel
theorem dX8_cut_38 : decode cX8_cut 38 = .ok (.aload 4, 2) := by decide +kernel
theorem dX8_cut_40 : decode cX8_cut 40 = .ok (.aload 5, 2) := by decide +kernel
theorem dX8_cut_42 : decode cX8_cut 42 = .ok (.getfield 123, 3) := by decide +kernel
theorem dX8_cut_45 : decode cX8_cut 45 = .ok (.iload 6, 2) := by decide +kernel
theorem dX8_cut_47 : decode cX8_cut 47 = .ok (.iload_n 3, 1) := by decide +kernel
theorem dX8_cut_48 : decode cX8_cut 48 = .ok (.invokestatic 185, 3) := by decide +kernel
theorem dX8_cut_51 : decode cX8_cut 51 = .ok (.invokevirtual 191, 3) := by decide +kernel
theorem dX8_cut_54 : decode cX8_cut 54 = .ok (.iload 6, 2) := by decide +kernel
theorem dX8_cut_56 : decode cX8_cut 56 = .ok (.aload 4, 2) := by decide +kernel
theorem dX8_cut_58 : decode cX8_cut 58 = .ok (.aload 5, 2) := by decide +kernel
theorem dX8_cut_60 : decode cX8_cut 60 = .ok (.getfield 123, 3) := by decide +kernel
theorem dX8_cut_63 : decode cX8_cut 63 = .ok (.invokevirtual 195, 3) := by decide +kernel
theorem dX8_cut_66 : decode cX8_cut 66 = .ok (.isub, 1) := by decide +kernel
theorem dX8_cut_67 : decode cX8_cut 67 = .ok (.ireturn, 1) := by decide +kernel
theorem dX8_ship_0 : decode cX8_ship 0 = .ok (.aload_n 0, 1) := by decide +kernel
theorem dX8_ship_1 : decode cX8_ship 1 = .ok (.iload_n 1, 1) := by decide +kernel
theorem dX8_ship_2 : decode cX8_ship 2 = .ok (.invokevirtual 177, 3) := by decide +kernel
theorem dX8_ship_5 : decode cX8_ship 5 = .ok (.astore 6, 2) := by decide +kernel
theorem dX8_ship_7 : decode cX8_ship 7 = .ok (.aload_n 0, 1) := by decide +kernel
theorem dX8_ship_8 : decode cX8_ship 8 = .ok (.iload_n 2, 1) := by decide +kernel
theorem dX8_ship_9 : decode cX8_ship 9 = .ok (.invokevirtual 124, 3) := by decide +kernel
theorem dX8_ship_12 : decode cX8_ship 12 = .ok (.astore 7, 2) := by decide +kernel
theorem dX8_ship_14 : decode cX8_ship 14 = .ok (.iload_n 3, 1) := by decide +kernel
theorem dX8_ship_15 : decode cX8_ship 15 = .ok (.iload 4, 2) := by decide +kernel
theorem dX8_ship_17 : decode cX8_ship 17 = .ok (.invokestatic 198, 3) := by decide +kernel
theorem dX8_ship_20 : decode cX8_ship 20 = .ok (.aload_n 0, 1) := by decide +kernel
theorem dX8_ship_21 : decode cX8_ship 21 = .ok (.getfield 25, 3) := by decide +kernel
theorem dX8_ship_24 : decode cX8_ship 24 = .ok (.invokevirtual 89, 3) := by decide +kernel
theorem dX8_ship_27 : decode cX8_ship 27 = .ok (.bipush 48, 2) := by decide +kernel
theorem dX8_ship_29 : decode cX8_ship 29 = .ok (.if_icmp .ge 7, 3) := by decide +kernel
theorem dX8_ship_32 : decode cX8_ship 32 = .ok (.iconst 1, 1) := by decide +kernel
theorem dX8_ship_33 : decode cX8_ship 33 = .ok (.goto 4, 3) := by decide +kernel
theorem dX8_ship_36 : decode cX8_ship 36 = .ok (.iconst 0, 1) := by decide +kernel
theorem dX8_ship_37 : decode cX8_ship 37 = .ok (.invokestatic 56, 3) := by decide +kernel
theorem dX8_ship_40 : decode cX8_ship 40 = .ok (.new 201, 3) := by decide +kernel
theorem dX8_ship_43 : decode cX8_ship 43 = .ok (.dup, 1) := by decide +kernel
theorem dX8_ship_44 : decode cX8_ship 44 = .ok (.aload 6, 2) := by decide +kernel
theorem dX8_ship_46 : decode cX8_ship 46 = .ok (.aload 7, 2) := by decide +kernel
theorem dX8_ship_48 : decode cX8_ship 48 = .ok (.iload_n 3, 1) := by decide +kernel
theorem dX8_ship_49 : decode cX8_ship 49 = .ok (.aload_n 0, 1) := by decide +kernel
theorem dX8_ship_50 : decode cX8_ship 50 = .ok (.getfield 151, 3) := by decide +kernel
theorem dX8_ship_53 : decode cX8_ship 53 = .ok (.iload 4, 2) := by decide +kernel
theorem dX8_ship_55 : decode cX8_ship 55 = .ok (.iload 5, 2) := by decide +kernel
theorem dX8_ship_57 : decode cX8_ship 57 = .ok (.invokespecial 203, 3) := by decide +kernel
theorem dX8_ship_60 : decode cX8_ship 60 = .ok (.astore 8, 2) := by decide +kernel
theorem dX8_ship_62 : decode cX8_ship 62 = .ok (.aload 7, 2) := by decide +kernel
theorem dX8_ship_64 : decode cX8_ship 64 = .ok (.getfield 206, 3) := by decide +kernel
theorem dX8_ship_67 : decode cX8_ship 67 = .ok (.aload_n 0, 1) := by decide +kernel
theorem dX8_ship_68 : decode cX8_ship 68 = .ok (.getfield 151, 3) := by decide +kernel
theorem dX8_ship_71 : decode cX8_ship 71 = .ok (.aload 7, 2) := by decide +kernel
theorem dX8_ship_73 : decode cX8_ship 73 = .ok (.getfield 184, 3) := by decide +kernel
theorem dX8_ship_76 : decode cX8_ship 76 = .ok (.iload 4, 2) := by decide +kernel
theorem dX8_ship_78 : decode cX8_ship 78 = .ok (.invokevirtual 210, 3) := by decide +kernel
theorem dX8_ship_81 : decode cX8_ship 81 = .ok (.istore 9, 2) := by decide +kernel
theorem dX8_ship_83 : decode cX8_ship 83 = .ok (.aload_n 0, 1) := by decide +kernel
theorem dX8_ship_84 : decode cX8_ship 84 = .ok (.aload 6, 2) := by decide +kernel
theorem dX8_ship_86 : decode cX8_ship 86 = .ok (.aload 7, 2) := by decide +kernel
theorem dX8_ship_88 : decode cX8_ship 88 = .ok (.iload_n 3, 1) := by decide +kernel
theorem dX8_ship_89 : decode cX8_ship 89 = .ok (.iload 4, 2) := by decide +kernel
theorem dX8_ship_91 : decode cX8_ship 91 = .ok (.invokevirtual 213, 3) := by decide +kernel
theorem dX8_ship_94 : decode cX8_ship 94 = .ok (.istore 10, 2) := by decide +kernel
theorem dX8_ship_96 : decode cX8_ship 96 = .ok (.aload 8, 2) := by decide +kernel
theorem dX8_ship_98 : decode cX8_ship 98 = .ok (.iload 9, 2) := by decide +kernel
theorem dX8_ship_100 : decode cX8_ship 100 = .ok (.aload_n 0, 1) := by decide +kernel
theorem dX8_ship_101 : decode cX8_ship 101 = .ok (.aload 6, 2) := by decide +kernel
theorem dX8_ship_103 : decode cX8_ship 103 = .ok (.aload 7, 2) := by decide +kernel
theorem dX8_ship_105 : decode cX8_ship 105 = .ok (.iload_n 3, 1) := by decide +kernel
theorem dX8_ship_106 : decode cX8_ship 106 = .ok (.iload 4, 2) := by decide +kernel
theorem dX8_ship_108 : decode cX8_ship 108 = .ok (.invokevirtual 217, 3) := by decide +kernel
theorem dX8_ship_111 : decode cX8_ship 111 = .ok (.iload 10, 2) := by decide +kernel
theorem dX8_ship_113 : decode cX8_ship 113 = .ok (.invokevirtual 220, 3) := by decide +kernel
theorem dX8_ship_116 : decode cX8_ship 116 = .ok (.aload_n 0, 1) := by decide +kernel
theorem dX8_ship_117 : decode cX8_ship 117 = .ok (.getfield 25, 3) := by decide +kernel
theorem dX8_ship_120 : decode cX8_ship 120 = .ok (.aload 8, 2) := by decide +kernel
theorem dX8_ship_122 : decode cX8_ship 122 = .ok (.invokevirtual 172, 3) := by decide +kernel
theorem dX8_ship_125 : decode cX8_ship 125 = .ok (.pop, 1) := by decide +kernel
theorem dX8_ship_126 : decode cX8_ship 126 = .ok (.aload 6, 2) := by decide +kernel
theorem dX8_ship_128 : decode cX8_ship 128 = .ok (.getfield 224, 3) := by decide +kernel
theorem dX8_ship_131 : decode cX8_ship 131 = .ok (.dup, 1) := by decide +kernel
theorem dX8_ship_132 : decode cX8_ship 132 = .ok (.getfield 228, 3) := by decide +kernel
theorem dX8_ship_135 : decode cX8_ship 135 = .ok (.iconst 1, 1) := by decide +kernel
theorem dX8_ship_136 : decode cX8_ship 136 = .ok (.aload 7, 2) := by decide +kernel
theorem dX8_ship_138 : decode cX8_ship 138 = .ok (.getfield 123, 3) := by decide +kernel
theorem dX8_ship_141 : decode cX8_ship 141 = .ok (.ishl, 1) := by decide +kernel
theorem dX8_ship_142 : decode cX8_ship 142 = .ok (.ior, 1) := by decide +kernel
theorem dX8_ship_143 : decode cX8_ship 143 = .ok (.putfield 228, 3) := by decide +kernel
theorem dX8_ship_146 : decode cX8_ship 146 = .ok (.aload_n 0, 1) := by decide +kernel
theorem dX8_ship_147 : decode cX8_ship 147 = .ok (.aload 8, 2) := by decide +kernel
theorem dX8_ship_149 : decode cX8_ship 149 = .ok (.invokevirtual 231, 3) := by decide +kernel
theorem dX8_ship_152 : decode cX8_ship 152 = .ok (.aload_n 0, 1) := by decide +kernel
theorem dX8_ship_153 : decode cX8_ship 153 = .ok (.getfield 25, 3) := by decide +kernel
theorem dX8_ship_156 : decode cX8_ship 156 = .ok (.invokevirtual 89, 3) := by decide +kernel
theorem dX8_ship_159 : decode cX8_ship 159 = .ok (.iconst 1, 1) := by decide +kernel
theorem dX8_ship_160 : decode cX8_ship 160 = .ok (.isub, 1) := by decide +kernel
theorem dX8_ship_161 : decode cX8_ship 161 = .ok (.ireturn, 1) := by decide +kernel
theorem dX8_pay_0 : decode cX8_pay 0 = .ok (.aload_n 0, 1) := by decide +kernel
theorem dX8_pay_1 : decode cX8_pay 1 = .ok (.iload_n 1, 1) := by decide +kernel
theorem dX8_pay_2 : decode cX8_pay 2 = .ok (.invokevirtual 124, 3) := by decide +kernel
theorem dX8_pay_5 : decode cX8_pay 5 = .ok (.astore_n 3, 1) := by decide +kernel
theorem dX8_pay_6 : decode cX8_pay 6 = .ok (.iload_n 2, 1) := by decide +kernel
theorem dX8_pay_7 : decode cX8_pay 7 = .ok (.iconst 1, 1) := by decide +kernel
theorem dX8_pay_8 : decode cX8_pay 8 = .ok (.ldc 128, 2) := by decide +kernel
theorem dX8_pay_10 : decode cX8_pay 10 = .ok (.invokestatic 44, 3) := by decide +kernel
theorem dX8_pay_13 : decode cX8_pay 13 = .ok (.invokestatic 48, 3) := by decide +kernel
theorem dX8_pay_16 : decode cX8_pay 16 = .ok (.aload_n 3, 1) := by decide +kernel
theorem dX8_pay_17 : decode cX8_pay 17 = .ok (.invokevirtual 235, 3) := by decide +kernel
theorem dX8_pay_20 : decode cX8_pay 20 = .ok (.invokestatic 56, 3) := by decide +kernel
theorem dX8_pay_23 : decode cX8_pay 23 = .ok (.iload_n 2, 1) := by decide +kernel
theorem dX8_pay_24 : decode cX8_pay 24 = .ok (.aload_n 3, 1) := by decide +kernel
theorem dX8_pay_25 : decode cX8_pay 25 = .ok (.getfield 79, 3) := by decide +kernel
theorem dX8_pay_28 : decode cX8_pay 28 = .ok (.getfield 129, 3) := by decide +kernel
theorem dX8_pay_31 : decode cX8_pay 31 = .ok (.invokestatic 185, 3) := by decide +kernel
theorem dX8_pay_34 : decode cX8_pay 34 = .ok (.istore 4, 2) := by decide +kernel
theorem dX8_pay_36 : decode cX8_pay 36 = .ok (.iconst 0, 1) := by decide +kernel
theorem dX8_pay_37 : decode cX8_pay 37 = .ok (.istore 5, 2) := by decide +kernel
theorem dX8_pay_39 : decode cX8_pay 39 = .ok (.iconst 0, 1) := by decide +kernel
theorem dX8_pay_40 : decode cX8_pay 40 = .ok (.istore 6, 2) := by decide +kernel
theorem dX8_pay_42 : decode cX8_pay 42 = .ok (.iload 6, 2) := by decide +kernel
theorem dX8_pay_44 : decode cX8_pay 44 = .ok (.aload_n 0, 1) := by decide +kernel
theorem dX8_pay_45 : decode cX8_pay 45 = .ok (.getfield 25, 3) := by decide +kernel
theorem dX8_pay_48 : decode cX8_pay 48 = .ok (.invokevirtual 89, 3) := by decide +kernel
theorem dX8_pay_51 : decode cX8_pay 51 = .ok (.if_icmp .ge 65, 3) := by decide +kernel
theorem dX8_pay_54 : decode cX8_pay 54 = .ok (.iload 5, 2) := by decide +kernel
theorem dX8_pay_56 : decode cX8_pay 56 = .ok (.iload 4, 2) := by decide +kernel
theorem dX8_pay_58 : decode cX8_pay 58 = .ok (.if_icmp .ge 58, 3) := by decide +kernel
theorem dX8_pay_61 : decode cX8_pay 61 = .ok (.aload_n 0, 1) := by decide +kernel
theorem dX8_pay_62 : decode cX8_pay 62 = .ok (.aload_n 3, 1) := by decide +kernel
theorem dX8_pay_63 : decode cX8_pay 63 = .ok (.invokevirtual 238, 3) := by decide +kernel
theorem dX8_pay_66 : decode cX8_pay 66 = .ok (.astore 7, 2) := by decide +kernel
theorem dX8_pay_68 : decode cX8_pay 68 = .ok (.aload 7, 2) := by decide +kernel
theorem dX8_pay_70 : decode cX8_pay 70 = .ok (.ifnonnull 6, 3) := by decide +kernel
theorem dX8_pay_73 : decode cX8_pay 73 = .ok (.iload 5, 2) := by decide +kernel
theorem dX8_pay_75 : decode cX8_pay 75 = .ok (.ireturn, 1) := by decide +kernel
theorem dX8_pay_76 : decode cX8_pay 76 = .ok (.iload 4, 2) := by decide +kernel
theorem dX8_pay_78 : decode cX8_pay 78 = .ok (.iload 5, 2) := by decide +kernel
theorem dX8_pay_80 : decode cX8_pay 80 = .ok (.isub, 1) := by decide +kernel
theorem dX8_pay_81 : decode cX8_pay 81 = .ok (.aload 7, 2) := by decide +kernel
theorem dX8_pay_83 : decode cX8_pay 83 = .ok (.getfield 242, 3) := by decide +kernel
theorem dX8_pay_86 : decode cX8_pay 86 = .ok (.invokestatic 185, 3) := by decide +kernel
theorem dX8_pay_89 : decode cX8_pay 89 = .ok (.istore 8, 2) := by decide +kernel
theorem dX8_pay_91 : decode cX8_pay 91 = .ok (.aload_n 0, 1) := by decide +kernel
theorem dX8_pay_92 : decode cX8_pay 92 = .ok (.aload 7, 2) := by decide +kernel
theorem dX8_pay_94 : decode cX8_pay 94 = .ok (.aload_n 3, 1) := by decide +kernel
theorem dX8_pay_95 : decode cX8_pay 95 = .ok (.getfield 79, 3) := by decide +kernel
theorem dX8_pay_98 : decode cX8_pay 98 = .ok (.iload 8, 2) := by decide +kernel
theorem dX8_pay_100 : decode cX8_pay 100 = .ok (.invokevirtual 245, 3) := by decide +kernel
theorem dX8_pay_103 : decode cX8_pay 103 = .ok (.iload 5, 2) := by decide +kernel
theorem dX8_pay_105 : decode cX8_pay 105 = .ok (.iload 8, 2) := by decide +kernel
theorem dX8_pay_107 : decode cX8_pay 107 = .ok (.iadd, 1) := by decide +kernel
theorem dX8_pay_108 : decode cX8_pay 108 = .ok (.istore 5, 2) := by decide +kernel
theorem dX8_pay_110 : decode cX8_pay 110 = .ok (.iinc 6 1, 3) := by decide +kernel
theorem dX8_pay_113 : decode cX8_pay 113 = .ok (.goto (-71), 3) := by decide +kernel
theorem dX8_pay_116 : decode cX8_pay 116 = .ok (.iload 5, 2) := by decide +kernel
theorem dX8_pay_118 : decode cX8_pay 118 = .ok (.ireturn, 1) := by decide +kernel
theorem dX8_report_0 : decode cX8_report 0 = .ok (.aload_n 0, 1) := by decide +kernel
theorem dX8_report_1 : decode cX8_report 1 = .ok (.iload_n 1, 1) := by decide +kernel
theorem dX8_report_2 : decode cX8_report 2 = .ok (.invokevirtual 249, 3) := by decide +kernel
theorem dX8_report_5 : decode cX8_report 5 = .ok (.astore_n 2, 1) := by decide +kernel
theorem dX8_report_6 : decode cX8_report 6 = .ok (.aload_n 0, 1) := by decide +kernel
theorem dX8_report_7 : decode cX8_report 7 = .ok (.getfield 151, 3) := by decide +kernel
theorem dX8_report_10 : decode cX8_report 10 = .ok (.aload_n 2, 1) := by decide +kernel
theorem dX8_report_11 : decode cX8_report 11 = .ok (.getfield 253, 3) := by decide +kernel
theorem dX8_report_14 : decode cX8_report 14 = .ok (.if_icmp .lt 21, 3) := by decide +kernel
theorem dX8_report_17 : decode cX8_report 17 = .ok (.aload_n 2, 1) := by decide +kernel
theorem dX8_report_18 : decode cX8_report 18 = .ok (.getfield 242, 3) := by decide +kernel
theorem dX8_report_21 : decode cX8_report 21 = .ok (.ifCond .le 14, 3) := by decide +kernel
theorem dX8_report_24 : decode cX8_report 24 = .ok (.aload_n 2, 1) := by decide +kernel
theorem dX8_report_25 : decode cX8_report 25 = .ok (.getfield 256, 3) := by decide +kernel
theorem dX8_report_28 : decode cX8_report 28 = .ok (.ifCond .ne 7, 3) := by decide +kernel
theorem dX8_report_31 : decode cX8_report 31 = .ok (.iconst 1, 1) := by decide +kernel
theorem dX8_report_32 : decode cX8_report 32 = .ok (.goto 4, 3) := by decide +kernel
theorem dX8_report_35 : decode cX8_report 35 = .ok (.iconst 0, 1) := by decide +kernel
theorem dX8_report_36 : decode cX8_report 36 = .ok (.invokestatic 56, 3) := by decide +kernel
theorem dX8_report_39 : decode cX8_report 39 = .ok (.aload_n 2, 1) := by decide +kernel
theorem dX8_report_40 : decode cX8_report 40 = .ok (.iconst 1, 1) := by decide +kernel
theorem dX8_report_41 : decode cX8_report 41 = .ok (.putfield 256, 3) := by decide +kernel
theorem dX8_report_44 : decode cX8_report 44 = .ok (.aload_n 2, 1) := by decide +kernel
theorem dX8_report_45 : decode cX8_report 45 = .ok (.aload_n 0, 1) := by decide +kernel
theorem dX8_report_46 : decode cX8_report 46 = .ok (.getfield 151, 3) := by decide +kernel
theorem dX8_report_49 : decode cX8_report 49 = .ok (.invokevirtual 259, 3) := by decide +kernel
theorem dX8_report_52 : decode cX8_report 52 = .ok (.ireturn, 1) := by decide +kernel
theorem dX8_dispute_0 : decode cX8_dispute 0 = .ok (.aload_n 0, 1) := by decide +kernel
theorem dX8_dispute_1 : decode cX8_dispute 1 = .ok (.iload_n 1, 1) := by decide +kernel
theorem dX8_dispute_2 : decode cX8_dispute 2 = .ok (.invokevirtual 249, 3) := by decide +kernel
theorem dX8_dispute_5 : decode cX8_dispute 5 = .ok (.astore_n 2, 1) := by decide +kernel
theorem dX8_dispute_6 : decode cX8_dispute 6 = .ok (.aload_n 2, 1) := by decide +kernel
theorem dX8_dispute_7 : decode cX8_dispute 7 = .ok (.invokevirtual 262, 3) := by decide +kernel
theorem dX8_dispute_10 : decode cX8_dispute 10 = .ok (.ifCond .eq 14, 3) := by decide +kernel
theorem dX8_dispute_13 : decode cX8_dispute 13 = .ok (.aload_n 2, 1) := by decide +kernel
theorem dX8_dispute_14 : decode cX8_dispute 14 = .ok (.getfield 265, 3) := by decide +kernel
theorem dX8_dispute_17 : decode cX8_dispute 17 = .ok (.ifCond .ne 7, 3) := by decide +kernel
theorem dX8_dispute_20 : decode cX8_dispute 20 = .ok (.iconst 1, 1) := by decide +kernel
theorem dX8_dispute_21 : decode cX8_dispute 21 = .ok (.goto 4, 3) := by decide +kernel
theorem dX8_dispute_24 : decode cX8_dispute 24 = .ok (.iconst 0, 1) := by decide +kernel
theorem dX8_dispute_25 : decode cX8_dispute 25 = .ok (.invokestatic 56, 3) := by decide +kernel
theorem dX8_dispute_28 : decode cX8_dispute 28 = .ok (.aload_n 2, 1) := by decide +kernel
theorem dX8_dispute_29 : decode cX8_dispute 29 = .ok (.iconst 1, 1) := by decide +kernel
theorem dX8_dispute_30 : decode cX8_dispute 30 = .ok (.putfield 265, 3) := by decide +kernel
theorem dX8_dispute_33 : decode cX8_dispute 33 = .ok (.aload_n 2, 1) := by decide +kernel
theorem dX8_dispute_34 : decode cX8_dispute 34 = .ok (.getfield 268, 3) := by decide +kernel
theorem dX8_dispute_37 : decode cX8_dispute 37 = .ok (.ireturn, 1) := by decide +kernel
theorem dX8_judge_0 : decode cX8_judge 0 = .ok (.aload_n 0, 1) := by decide +kernel
theorem dX8_judge_1 : decode cX8_judge 1 = .ok (.iload_n 1, 1) := by decide +kernel
theorem dX8_judge_2 : decode cX8_judge 2 = .ok (.invokevirtual 249, 3) := by decide +kernel
theorem dX8_judge_5 : decode cX8_judge 5 = .ok (.astore_n 3, 1) := by decide +kernel
theorem dX8_judge_6 : decode cX8_judge 6 = .ok (.aload_n 3, 1) := by decide +kernel
theorem dX8_judge_7 : decode cX8_judge 7 = .ok (.getfield 265, 3) := by decide +kernel
theorem dX8_judge_10 : decode cX8_judge 10 = .ok (.invokestatic 56, 3) := by decide +kernel
theorem dX8_judge_13 : decode cX8_judge 13 = .ok (.aload_n 3, 1) := by decide +kernel
theorem dX8_judge_14 : decode cX8_judge 14 = .ok (.iconst 0, 1) := by decide +kernel
theorem dX8_judge_15 : decode cX8_judge 15 = .ok (.putfield 265, 3) := by decide +kernel
theorem dX8_judge_18 : decode cX8_judge 18 = .ok (.iload_n 2, 1) := by decide +kernel
theorem dX8_judge_19 : decode cX8_judge 19 = .ok (.ifCond .ne 8, 3) := by decide +kernel
theorem dX8_judge_22 : decode cX8_judge 22 = .ok (.aload_n 3, 1) := by decide +kernel
theorem dX8_judge_23 : decode cX8_judge 23 = .ok (.iconst 0, 1) := by decide +kernel
theorem dX8_judge_24 : decode cX8_judge 24 = .ok (.putfield 268, 3) := by decide +kernel
theorem dX8_judge_27 : decode cX8_judge 27 = .ok (.aload_n 3, 1) := by decide +kernel
theorem dX8_judge_28 : decode cX8_judge 28 = .ok (.getfield 268, 3) := by decide +kernel
theorem dX8_judge_31 : decode cX8_judge 31 = .ok (.ireturn, 1) := by decide +kernel
theorem dX8_claim_0 : decode cX8_claim 0 = .ok (.aload_n 0, 1) := by decide +kernel
theorem dX8_claim_1 : decode cX8_claim 1 = .ok (.iload_n 1, 1) := by decide +kernel
theorem dX8_claim_2 : decode cX8_claim 2 = .ok (.invokevirtual 249, 3) := by decide +kernel
theorem dX8_claim_5 : decode cX8_claim 5 = .ok (.astore_n 2, 1) := by decide +kernel
theorem dX8_claim_6 : decode cX8_claim 6 = .ok (.aload_n 2, 1) := by decide +kernel
theorem dX8_claim_7 : decode cX8_claim 7 = .ok (.invokevirtual 271, 3) := by decide +kernel
theorem dX8_claim_10 : decode cX8_claim 10 = .ok (.istore_n 3, 1) := by decide +kernel
theorem dX8_claim_11 : decode cX8_claim 11 = .ok (.aload_n 2, 1) := by decide +kernel
theorem dX8_claim_12 : decode cX8_claim 12 = .ok (.getfield 256, 3) := by decide +kernel
theorem dX8_claim_15 : decode cX8_claim 15 = .ok (.ifCond .eq 20, 3) := by decide +kernel
theorem dX8_claim_18 : decode cX8_claim 18 = .ok (.iload_n 3, 1) := by decide +kernel
theorem dX8_claim_19 : decode cX8_claim 19 = .ok (.iconst (-1), 1) := by decide +kernel
theorem dX8_claim_20 : decode cX8_claim 20 = .ok (.if_icmp .eq 15, 3) := by decide +kernel
theorem dX8_claim_23 : decode cX8_claim 23 = .ok (.aload_n 0, 1) := by decide +kernel
theorem dX8_claim_24 : decode cX8_claim 24 = .ok (.getfield 151, 3) := by decide +kernel
theorem dX8_claim_27 : decode cX8_claim 27 = .ok (.iload_n 3, 1) := by decide +kernel
theorem dX8_claim_28 : decode cX8_claim 28 = .ok (.if_icmp .lt 7, 3) := by decide +kernel
theorem dX8_claim_31 : decode cX8_claim 31 = .ok (.iconst 1, 1) := by decide +kernel
theorem dX8_claim_32 : decode cX8_claim 32 = .ok (.goto 4, 3) := by decide +kernel
theorem dX8_claim_35 : decode cX8_claim 35 = .ok (.iconst 0, 1) := by decide +kernel
theorem dX8_claim_36 : decode cX8_claim 36 = .ok (.invokestatic 56, 3) := by decide +kernel
theorem dX8_claim_39 : decode cX8_claim 39 = .ok (.aload_n 2, 1) := by decide +kernel
theorem dX8_claim_40 : decode cX8_claim 40 = .ok (.getfield 274, 3) := by decide +kernel
theorem dX8_claim_43 : decode cX8_claim 43 = .ok (.astore 4, 2) := by decide +kernel
theorem dX8_claim_45 : decode cX8_claim 45 = .ok (.aload_n 2, 1) := by decide +kernel
theorem dX8_claim_46 : decode cX8_claim 46 = .ok (.getfield 268, 3) := by decide +kernel
theorem dX8_claim_49 : decode cX8_claim 49 = .ok (.aload_n 2, 1) := by decide +kernel
theorem dX8_claim_50 : decode cX8_claim 50 = .ok (.getfield 242, 3) := by decide +kernel
theorem dX8_claim_53 : decode cX8_claim 53 = .ok (.invokestatic 185, 3) := by decide +kernel
theorem dX8_claim_56 : decode cX8_claim 56 = .ok (.aload 4, 2) := by decide +kernel
theorem dX8_claim_58 : decode cX8_claim 58 = .ok (.getfield 278, 3) := by decide +kernel
theorem dX8_claim_61 : decode cX8_claim 61 = .ok (.imul, 1) := by decide +kernel
theorem dX8_claim_62 : decode cX8_claim 62 = .ok (.bipush 100, 2) := by decide +kernel
theorem dX8_claim_64 : decode cX8_claim 64 = .ok (.idiv, 1) := by decide +kernel
theorem dX8_claim_65 : decode cX8_claim 65 = .ok (.istore 5, 2) := by decide +kernel
theorem dX8_claim_67 : decode cX8_claim 67 = .ok (.iload 5, 2) := by decide +kernel
theorem dX8_claim_69 : decode cX8_claim 69 = .ok (.aload 4, 2) := by decide +kernel
theorem dX8_claim_71 : decode cX8_claim 71 = .ok (.getfield 281, 3) := by decide +kernel
theorem dX8_claim_74 : decode cX8_claim 74 = .ok (.imul, 1) := by decide +kernel
theorem dX8_claim_75 : decode cX8_claim 75 = .ok (.bipush 100, 2) := by decide +kernel
theorem dX8_claim_77 : decode cX8_claim 77 = .ok (.idiv, 1) := by decide +kernel
theorem dX8_claim_78 : decode cX8_claim 78 = .ok (.istore 6, 2) := by decide +kernel
theorem dX8_claim_80 : decode cX8_claim 80 = .ok (.aload_n 2, 1) := by decide +kernel
theorem dX8_claim_81 : decode cX8_claim 81 = .ok (.new 284, 3) := by decide +kernel
theorem dX8_claim_84 : decode cX8_claim 84 = .ok (.dup, 1) := by decide +kernel
theorem dX8_claim_85 : decode cX8_claim 85 = .ok (.aload_n 2, 1) := by decide +kernel
theorem dX8_claim_86 : decode cX8_claim 86 = .ok (.getfield 242, 3) := by decide +kernel
theorem dX8_claim_89 : decode cX8_claim 89 = .ok (.iload 5, 2) := by decide +kernel
theorem dX8_claim_91 : decode cX8_claim 91 = .ok (.iload 6, 2) := by decide +kernel
theorem dX8_claim_93 : decode cX8_claim 93 = .ok (.invokespecial 286, 3) := by decide +kernel
theorem dX8_claim_96 : decode cX8_claim 96 = .ok (.putfield 288, 3) := by decide +kernel
theorem dX8_claim_99 : decode cX8_claim 99 = .ok (.aload_n 0, 1) := by decide +kernel
theorem dX8_claim_100 : decode cX8_claim 100 = .ok (.getfield 31, 3) := by decide +kernel
theorem dX8_claim_103 : decode cX8_claim 103 = .ok (.aload 4, 2) := by decide +kernel
theorem dX8_claim_105 : decode cX8_claim 105 = .ok (.getfield 224, 3) := by decide +kernel
theorem dX8_claim_108 : decode cX8_claim 108 = .ok (.getfield 292, 3) := by decide +kernel
theorem dX8_claim_111 : decode cX8_claim 111 = .ok (.iload 5, 2) := by decide +kernel
theorem dX8_claim_113 : decode cX8_claim 113 = .ok (.invokevirtual 84, 3) := by decide +kernel
theorem dX8_claim_116 : decode cX8_claim 116 = .ok (.aload_n 0, 1) := by decide +kernel
theorem dX8_claim_117 : decode cX8_claim 117 = .ok (.aload 4, 2) := by decide +kernel
theorem dX8_claim_119 : decode cX8_claim 119 = .ok (.getfield 293, 3) := by decide +kernel
theorem dX8_claim_122 : decode cX8_claim 122 = .ok (.invokevirtual 296, 3) := by decide +kernel
theorem dX8_claim_125 : decode cX8_claim 125 = .ok (.aload_n 0, 1) := by decide +kernel
theorem dX8_claim_126 : decode cX8_claim 126 = .ok (.getfield 31, 3) := by decide +kernel
theorem dX8_claim_129 : decode cX8_claim 129 = .ok (.iload 6, 2) := by decide +kernel
theorem dX8_claim_131 : decode cX8_claim 131 = .ok (.invokevirtual 84, 3) := by decide +kernel
theorem dX8_claim_134 : decode cX8_claim 134 = .ok (.aload_n 0, 1) := by decide +kernel
theorem dX8_claim_135 : decode cX8_claim 135 = .ok (.dup, 1) := by decide +kernel
theorem dX8_claim_136 : decode cX8_claim 136 = .ok (.getfield 300, 3) := by decide +kernel
theorem dX8_claim_139 : decode cX8_claim 139 = .ok (.iload 5, 2) := by decide +kernel
theorem dX8_claim_141 : decode cX8_claim 141 = .ok (.iload 6, 2) := by decide +kernel
theorem dX8_claim_143 : decode cX8_claim 143 = .ok (.isub, 1) := by decide +kernel
theorem dX8_claim_144 : decode cX8_claim 144 = .ok (.iadd, 1) := by decide +kernel
theorem dX8_claim_145 : decode cX8_claim 145 = .ok (.putfield 300, 3) := by decide +kernel
theorem dX8_claim_148 : decode cX8_claim 148 = .ok (.iload 5, 2) := by decide +kernel
theorem dX8_claim_150 : decode cX8_claim 150 = .ok (.ireturn, 1) := by decide +kernel
theorem dX8_salvage_0 : decode cX8_salvage 0 = .ok (.aload_n 0, 1) := by decide +kernel
theorem dX8_salvage_1 : decode cX8_salvage 1 = .ok (.iload_n 1, 1) := by decide +kernel
theorem dX8_salvage_2 : decode cX8_salvage 2 = .ok (.invokevirtual 249, 3) := by decide +kernel
theorem dX8_salvage_5 : decode cX8_salvage 5 = .ok (.astore_n 3, 1) := by decide +kernel
theorem dX8_salvage_6 : decode cX8_salvage 6 = .ok (.iload_n 2, 1) := by decide +kernel
theorem dX8_salvage_7 : decode cX8_salvage 7 = .ok (.iconst 1, 1) := by decide +kernel
theorem dX8_salvage_8 : decode cX8_salvage 8 = .ok (.ldc 128, 2) := by decide +kernel
theorem dX8_salvage_10 : decode cX8_salvage 10 = .ok (.invokestatic 44, 3) := by decide +kernel
theorem dX8_salvage_13 : decode cX8_salvage 13 = .ok (.invokestatic 48, 3) := by decide +kernel
theorem dX8_salvage_16 : decode cX8_salvage 16 = .ok (.aload_n 3, 1) := by decide +kernel
theorem dX8_salvage_17 : decode cX8_salvage 17 = .ok (.getfield 288, 3) := by decide +kernel
theorem dX8_salvage_20 : decode cX8_salvage 20 = .ok (.ifnull 14, 3) := by decide +kernel
theorem dX8_salvage_23 : decode cX8_salvage 23 = .ok (.aload_n 3, 1) := by decide +kernel
theorem dX8_salvage_24 : decode cX8_salvage 24 = .ok (.getfield 303, 3) := by decide +kernel
theorem dX8_salvage_27 : decode cX8_salvage 27 = .ok (.ifCond .ne 7, 3) := by decide +kernel
theorem dX8_salvage_30 : decode cX8_salvage 30 = .ok (.iconst 1, 1) := by decide +kernel
theorem dX8_salvage_31 : decode cX8_salvage 31 = .ok (.goto 4, 3) := by decide +kernel
theorem dX8_salvage_34 : decode cX8_salvage 34 = .ok (.iconst 0, 1) := by decide +kernel
theorem dX8_salvage_35 : decode cX8_salvage 35 = .ok (.invokestatic 56, 3) := by decide +kernel
theorem dX8_salvage_38 : decode cX8_salvage 38 = .ok (.iload_n 2, 1) := by decide +kernel
theorem dX8_salvage_39 : decode cX8_salvage 39 = .ok (.aload_n 3, 1) := by decide +kernel
theorem dX8_salvage_40 : decode cX8_salvage 40 = .ok (.getfield 242, 3) := by decide +kernel
theorem dX8_salvage_43 : decode cX8_salvage 43 = .ok (.invokestatic 185, 3) := by decide +kernel
theorem dX8_salvage_46 : decode cX8_salvage 46 = .ok (.istore 4, 2) := by decide +kernel
theorem dX8_salvage_48 : decode cX8_salvage 48 = .ok (.aload_n 0, 1) := by decide +kernel
theorem dX8_salvage_49 : decode cX8_salvage 49 = .ok (.aload_n 3, 1) := by decide +kernel
theorem dX8_salvage_50 : decode cX8_salvage 50 = .ok (.aload_n 0, 1) := by decide +kernel
theorem dX8_salvage_51 : decode cX8_salvage 51 = .ok (.getfield 41, 3) := by decide +kernel
theorem dX8_salvage_54 : decode cX8_salvage 54 = .ok (.iload 4, 2) := by decide +kernel
theorem dX8_salvage_56 : decode cX8_salvage 56 = .ok (.invokevirtual 245, 3) := by decide +kernel
theorem dX8_salvage_59 : decode cX8_salvage 59 = .ok (.iload 4, 2) := by decide +kernel
theorem dX8_salvage_61 : decode cX8_salvage 61 = .ok (.ireturn, 1) := by decide +kernel
theorem dX8_club_0 : decode cX8_club 0 = .ok (.aload_n 0, 1) := by decide +kernel
theorem dX8_club_1 : decode cX8_club 1 = .ok (.iload_n 1, 1) := by decide +kernel
theorem dX8_club_2 : decode cX8_club 2 = .ok (.invokevirtual 71, 3) := by decide +kernel
theorem dX8_club_5 : decode cX8_club 5 = .ok (.astore 4, 2) := by decide +kernel
theorem dX8_club_7 : decode cX8_club 7 = .ok (.iload_n 2, 1) := by decide +kernel
theorem dX8_club_8 : decode cX8_club 8 = .ok (.bipush 10, 2) := by decide +kernel
theorem dX8_club_10 : decode cX8_club 10 = .ok (.bipush 100, 2) := by decide +kernel
theorem dX8_club_12 : decode cX8_club 12 = .ok (.invokestatic 44, 3) := by decide +kernel
theorem dX8_club_15 : decode cX8_club 15 = .ok (.ifCond .eq 17, 3) := by decide +kernel
theorem dX8_club_18 : decode cX8_club 18 = .ok (.iload_n 3, 1) := by decide +kernel
theorem dX8_club_19 : decode cX8_club 19 = .ok (.iconst 1, 1) := by decide +kernel
theorem dX8_club_20 : decode cX8_club 20 = .ok (.bipush 10, 2) := by decide +kernel
theorem dX8_club_22 : decode cX8_club 22 = .ok (.invokestatic 44, 3) := by decide +kernel
theorem dX8_club_25 : decode cX8_club 25 = .ok (.ifCond .eq 7, 3) := by decide +kernel
theorem dX8_club_28 : decode cX8_club 28 = .ok (.iconst 1, 1) := by decide +kernel
theorem dX8_club_29 : decode cX8_club 29 = .ok (.goto 4, 3) := by decide +kernel
theorem dX8_club_32 : decode cX8_club 32 = .ok (.iconst 0, 1) := by decide +kernel
theorem dX8_club_33 : decode cX8_club 33 = .ok (.invokestatic 48, 3) := by decide +kernel
theorem dX8_club_36 : decode cX8_club 36 = .ok (.iconst 0, 1) := by decide +kernel
theorem dX8_club_37 : decode cX8_club 37 = .ok (.istore 5, 2) := by decide +kernel
theorem dX8_club_39 : decode cX8_club 39 = .ok (.iconst 0, 1) := by decide +kernel
theorem dX8_club_40 : decode cX8_club 40 = .ok (.istore 6, 2) := by decide +kernel
theorem dX8_club_42 : decode cX8_club 42 = .ok (.iload 6, 2) := by decide +kernel
theorem dX8_club_44 : decode cX8_club 44 = .ok (.aload_n 0, 1) := by decide +kernel
theorem dX8_club_45 : decode cX8_club 45 = .ok (.getfield 25, 3) := by decide +kernel
theorem dX8_club_48 : decode cX8_club 48 = .ok (.invokevirtual 89, 3) := by decide +kernel
theorem dX8_club_51 : decode cX8_club 51 = .ok (.if_icmp .ge 66, 3) := by decide +kernel
theorem dX8_club_54 : decode cX8_club 54 = .ok (.aload_n 0, 1) := by decide +kernel
theorem dX8_club_55 : decode cX8_club 55 = .ok (.getfield 25, 3) := by decide +kernel
theorem dX8_club_58 : decode cX8_club 58 = .ok (.iload 6, 2) := by decide +kernel
theorem dX8_club_60 : decode cX8_club 60 = .ok (.invokevirtual 306, 3) := by decide +kernel
theorem dX8_club_63 : decode cX8_club 63 = .ok (.checkcast 201, 3) := by decide +kernel
theorem dX8_club_66 : decode cX8_club 66 = .ok (.astore 7, 2) := by decide +kernel
theorem dX8_club_68 : decode cX8_club 68 = .ok (.aload 7, 2) := by decide +kernel
theorem dX8_club_70 : decode cX8_club 70 = .ok (.getfield 310, 3) := by decide +kernel
theorem dX8_club_73 : decode cX8_club 73 = .ok (.getfield 206, 3) := by decide +kernel
theorem dX8_club_76 : decode cX8_club 76 = .ok (.aload 4, 2) := by decide +kernel
theorem dX8_club_78 : decode cX8_club 78 = .ok (.if_acmp .ne 33, 3) := by decide +kernel
theorem dX8_club_81 : decode cX8_club 81 = .ok (.aload 7, 2) := by decide +kernel
theorem dX8_club_83 : decode cX8_club 83 = .ok (.invokevirtual 314, 3) := by decide +kernel
theorem dX8_club_86 : decode cX8_club 86 = .ok (.ifCond .eq 25, 3) := by decide +kernel
theorem dX8_club_89 : decode cX8_club 89 = .ok (.aload 7, 2) := by decide +kernel
theorem dX8_club_91 : decode cX8_club 91 = .ok (.getfield 253, 3) := by decide +kernel
theorem dX8_club_94 : decode cX8_club 94 = .ok (.aload_n 0, 1) := by decide +kernel
theorem dX8_club_95 : decode cX8_club 95 = .ok (.getfield 151, 3) := by decide +kernel
theorem dX8_club_98 : decode cX8_club 98 = .ok (.if_icmp .gt 13, 3) := by decide +kernel
theorem dX8_club_101 : decode cX8_club 101 = .ok (.aload 7, 2) := by decide +kernel
theorem dX8_club_103 : decode cX8_club 103 = .ok (.iload_n 2, 1) := by decide +kernel
theorem dX8_club_104 : decode cX8_club 104 = .ok (.iload_n 3, 1) := by decide +kernel
theorem dX8_club_105 : decode cX8_club 105 = .ok (.invokevirtual 317, 3) := by decide +kernel
theorem dX8_club_108 : decode cX8_club 108 = .ok (.iinc 5 1, 3) := by decide +kernel
theorem dX8_club_111 : decode cX8_club 111 = .ok (.iinc 6 1, 3) := by decide +kernel
theorem dX8_club_114 : decode cX8_club 114 = .ok (.goto (-72), 3) := by decide +kernel
theorem dX8_club_117 : decode cX8_club 117 = .ok (.iload 5, 2) := by decide +kernel
theorem dX8_club_119 : decode cX8_club 119 = .ok (.ireturn, 1) := by decide +kernel
theorem dX8_inspect_0 : decode cX8_inspect 0 = .ok (.aload_n 0, 1) := by decide +kernel
theorem dX8_inspect_1 : decode cX8_inspect 1 = .ok (.iload_n 1, 1) := by decide +kernel
theorem dX8_inspect_2 : decode cX8_inspect 2 = .ok (.invokevirtual 249, 3) := by decide +kernel
theorem dX8_inspect_5 : decode cX8_inspect 5 = .ok (.astore_n 2, 1) := by decide +kernel
theorem dX8_inspect_6 : decode cX8_inspect 6 = .ok (.aload_n 2, 1) := by decide +kernel
theorem dX8_inspect_7 : decode cX8_inspect 7 = .ok (.getfield 303, 3) := by decide +kernel
theorem dX8_inspect_10 : decode cX8_inspect 10 = .ok (.ifCond .ne 7, 3) := by decide +kernel
theorem dX8_inspect_13 : decode cX8_inspect 13 = .ok (.iconst 1, 1) := by decide +kernel
theorem dX8_inspect_14 : decode cX8_inspect 14 = .ok (.goto 4, 3) := by decide +kernel
theorem dX8_inspect_17 : decode cX8_inspect 17 = .ok (.iconst 0, 1) := by decide +kernel
theorem dX8_inspect_18 : decode cX8_inspect 18 = .ok (.invokestatic 56, 3) := by decide +kernel
theorem dX8_inspect_21 : decode cX8_inspect 21 = .ok (.aload_n 2, 1) := by decide +kernel
theorem dX8_inspect_22 : decode cX8_inspect 22 = .ok (.getfield 320, 3) := by decide +kernel
theorem dX8_inspect_25 : decode cX8_inspect 25 = .ok (.ifCond .ne 5, 3) := by decide +kernel
theorem dX8_inspect_28 : decode cX8_inspect 28 = .ok (.iconst 0, 1) := by decide +kernel
theorem dX8_inspect_29 : decode cX8_inspect 29 = .ok (.ireturn, 1) := by decide +kernel
theorem dX8_inspect_30 : decode cX8_inspect 30 = .ok (.aload_n 2, 1) := by decide +kernel
theorem dX8_inspect_31 : decode cX8_inspect 31 = .ok (.iconst 1, 1) := by decide +kernel
theorem dX8_inspect_32 : decode cX8_inspect 32 = .ok (.putfield 303, 3) := by decide +kernel
theorem dX8_inspect_35 : decode cX8_inspect 35 = .ok (.aload_n 2, 1) := by decide +kernel
theorem dX8_inspect_36 : decode cX8_inspect 36 = .ok (.getfield 274, 3) := by decide +kernel
theorem dX8_inspect_39 : decode cX8_inspect 39 = .ok (.iconst 1, 1) := by decide +kernel
theorem dX8_inspect_40 : decode cX8_inspect 40 = .ok (.putfield 181, 3) := by decide +kernel
theorem dX8_inspect_43 : decode cX8_inspect 43 = .ok (.aload_n 0, 1) := by decide +kernel
theorem dX8_inspect_44 : decode cX8_inspect 44 = .ok (.aload_n 2, 1) := by decide +kernel
theorem dX8_inspect_45 : decode cX8_inspect 45 = .ok (.invokevirtual 323, 3) := by decide +kernel
theorem dX8_inspect_48 : decode cX8_inspect 48 = .ok (.iconst 1, 1) := by decide +kernel
theorem dX8_inspect_49 : decode cX8_inspect 49 = .ok (.ireturn, 1) := by decide +kernel
theorem dX8_pass_0 : decode cX8_pass 0 = .ok (.iload_n 1, 1) := by decide +kernel
theorem dX8_pass_1 : decode cX8_pass 1 = .ok (.iconst 1, 1) := by decide +kernel
theorem dX8_pass_2 : decode cX8_pass 2 = .ok (.sipush 720, 3) := by decide +kernel
theorem dX8_pass_5 : decode cX8_pass 5 = .ok (.invokestatic 44, 3) := by decide +kernel
theorem dX8_pass_8 : decode cX8_pass 8 = .ok (.invokestatic 48, 3) := by decide +kernel
theorem dX8_pass_11 : decode cX8_pass 11 = .ok (.aload_n 0, 1) := by decide +kernel
theorem dX8_pass_12 : decode cX8_pass 12 = .ok (.getfield 151, 3) := by decide +kernel
theorem dX8_pass_15 : decode cX8_pass 15 = .ok (.iload_n 1, 1) := by decide +kernel
theorem dX8_pass_16 : decode cX8_pass 16 = .ok (.iadd, 1) := by decide +kernel
theorem dX8_pass_17 : decode cX8_pass 17 = .ok (.sipush 7200, 3) := by decide +kernel
theorem dX8_pass_20 : decode cX8_pass 20 = .ok (.if_icmp .gt 7, 3) := by decide +kernel
theorem dX8_pass_23 : decode cX8_pass 23 = .ok (.iconst 1, 1) := by decide +kernel
theorem dX8_pass_24 : decode cX8_pass 24 = .ok (.goto 4, 3) := by decide +kernel
theorem dX8_pass_27 : decode cX8_pass 27 = .ok (.iconst 0, 1) := by decide +kernel
theorem dX8_pass_28 : decode cX8_pass 28 = .ok (.invokestatic 56, 3) := by decide +kernel
theorem dX8_pass_31 : decode cX8_pass 31 = .ok (.iconst 0, 1) := by decide +kernel
theorem dX8_pass_32 : decode cX8_pass 32 = .ok (.istore_n 2, 1) := by decide +kernel
theorem dX8_pass_33 : decode cX8_pass 33 = .ok (.iload_n 2, 1) := by decide +kernel
theorem dX8_pass_34 : decode cX8_pass 34 = .ok (.iload_n 1, 1) := by decide +kernel
theorem dX8_pass_35 : decode cX8_pass 35 = .ok (.if_icmp .ge 38, 3) := by decide +kernel
theorem dX8_pass_38 : decode cX8_pass 38 = .ok (.aload_n 0, 1) := by decide +kernel
theorem dX8_pass_39 : decode cX8_pass 39 = .ok (.dup, 1) := by decide +kernel
theorem dX8_pass_40 : decode cX8_pass 40 = .ok (.getfield 151, 3) := by decide +kernel
theorem dX8_pass_43 : decode cX8_pass 43 = .ok (.iconst 1, 1) := by decide +kernel
theorem dX8_pass_44 : decode cX8_pass 44 = .ok (.iadd, 1) := by decide +kernel
theorem dX8_pass_45 : decode cX8_pass 45 = .ok (.putfield 151, 3) := by decide +kernel
theorem dX8_pass_48 : decode cX8_pass 48 = .ok (.aload_n 0, 1) := by decide +kernel
theorem dX8_pass_49 : decode cX8_pass 49 = .ok (.invokevirtual 326, 3) := by decide +kernel
theorem dX8_pass_52 : decode cX8_pass 52 = .ok (.aload_n 0, 1) := by decide +kernel
theorem dX8_pass_53 : decode cX8_pass 53 = .ok (.getfield 151, 3) := by decide +kernel
theorem dX8_pass_56 : decode cX8_pass 56 = .ok (.sipush 360, 3) := by decide +kernel
theorem dX8_pass_59 : decode cX8_pass 59 = .ok (.irem, 1) := by decide +kernel
theorem dX8_pass_60 : decode cX8_pass 60 = .ok (.ifCond .ne 7, 3) := by decide +kernel
theorem dX8_pass_63 : decode cX8_pass 63 = .ok (.aload_n 0, 1) := by decide +kernel
theorem dX8_pass_64 : decode cX8_pass 64 = .ok (.invokevirtual 329, 3) := by decide +kernel
theorem dX8_pass_67 : decode cX8_pass 67 = .ok (.iinc 2 1, 3) := by decide +kernel
theorem dX8_pass_70 : decode cX8_pass 70 = .ok (.goto (-37), 3) := by decide +kernel
theorem dX8_pass_73 : decode cX8_pass 73 = .ok (.aload_n 0, 1) := by decide +kernel
theorem dX8_pass_74 : decode cX8_pass 74 = .ok (.getfield 151, 3) := by decide +kernel
theorem dX8_pass_77 : decode cX8_pass 77 = .ok (.ireturn, 1) := by decide +kernel
theorem dX8_ofBuyer_0 : decode cX8_ofBuyer 0 = .ok (.aload_n 0, 1) := by decide +kernel
theorem dX8_ofBuyer_1 : decode cX8_ofBuyer 1 = .ok (.iload_n 1, 1) := by decide +kernel
theorem dX8_ofBuyer_2 : decode cX8_ofBuyer 2 = .ok (.invokevirtual 124, 3) := by decide +kernel
theorem dX8_ofBuyer_5 : decode cX8_ofBuyer 5 = .ok (.astore_n 3, 1) := by decide +kernel
theorem dX8_ofBuyer_6 : decode cX8_ofBuyer 6 = .ok (.iload_n 2, 1) := by decide +kernel
theorem dX8_ofBuyer_7 : decode cX8_ofBuyer 7 = .ok (.iconst 0, 1) := by decide +kernel
theorem dX8_ofBuyer_8 : decode cX8_ofBuyer 8 = .ok (.iconst 5, 1) := by decide +kernel
theorem dX8_ofBuyer_9 : decode cX8_ofBuyer 9 = .ok (.invokestatic 44, 3) := by decide +kernel
theorem dX8_ofBuyer_12 : decode cX8_ofBuyer 12 = .ok (.invokestatic 48, 3) := by decide +kernel
theorem dX8_ofBuyer_15 : decode cX8_ofBuyer 15 = .ok (.aload_n 0, 1) := by decide +kernel
theorem dX8_ofBuyer_16 : decode cX8_ofBuyer 16 = .ok (.aload_n 3, 1) := by decide +kernel
theorem dX8_ofBuyer_17 : decode cX8_ofBuyer 17 = .ok (.iload_n 2, 1) := by decide +kernel
theorem dX8_ofBuyer_18 : decode cX8_ofBuyer 18 = .ok (.invokevirtual 339, 3) := by decide +kernel
theorem dX8_ofBuyer_21 : decode cX8_ofBuyer 21 = .ok (.ireturn, 1) := by decide +kernel
theorem dX8_ofExporter_0 : decode cX8_ofExporter 0 = .ok (.aload_n 0, 1) := by decide +kernel
theorem dX8_ofExporter_1 : decode cX8_ofExporter 1 = .ok (.iload_n 1, 1) := by decide +kernel
theorem dX8_ofExporter_2 : decode cX8_ofExporter 2 = .ok (.invokevirtual 141, 3) := by decide +kernel
theorem dX8_ofExporter_5 : decode cX8_ofExporter 5 = .ok (.astore_n 3, 1) := by decide +kernel
theorem dX8_ofExporter_6 : decode cX8_ofExporter 6 = .ok (.iload_n 2, 1) := by decide +kernel
theorem dX8_ofExporter_7 : decode cX8_ofExporter 7 = .ok (.iconst 0, 1) := by decide +kernel
theorem dX8_ofExporter_8 : decode cX8_ofExporter 8 = .ok (.iconst 5, 1) := by decide +kernel
theorem dX8_ofExporter_9 : decode cX8_ofExporter 9 = .ok (.invokestatic 44, 3) := by decide +kernel
theorem dX8_ofExporter_12 : decode cX8_ofExporter 12 = .ok (.invokestatic 48, 3) := by decide +kernel
theorem dX8_ofExporter_15 : decode cX8_ofExporter 15 = .ok (.aload_n 0, 1) := by decide +kernel
theorem dX8_ofExporter_16 : decode cX8_ofExporter 16 = .ok (.aload_n 3, 1) := by decide +kernel
theorem dX8_ofExporter_17 : decode cX8_ofExporter 17 = .ok (.iload_n 2, 1) := by decide +kernel
theorem dX8_ofExporter_18 : decode cX8_ofExporter 18 = .ok (.invokevirtual 343, 3) := by decide +kernel
theorem dX8_ofExporter_21 : decode cX8_ofExporter 21 = .ok (.ireturn, 1) := by decide +kernel
theorem dX8_ofPolicy_0 : decode cX8_ofPolicy 0 = .ok (.aload_n 0, 1) := by decide +kernel
theorem dX8_ofPolicy_1 : decode cX8_ofPolicy 1 = .ok (.iload_n 1, 1) := by decide +kernel
theorem dX8_ofPolicy_2 : decode cX8_ofPolicy 2 = .ok (.invokevirtual 177, 3) := by decide +kernel
theorem dX8_ofPolicy_5 : decode cX8_ofPolicy 5 = .ok (.astore_n 3, 1) := by decide +kernel
theorem dX8_ofPolicy_6 : decode cX8_ofPolicy 6 = .ok (.iload_n 2, 1) := by decide +kernel
theorem dX8_ofPolicy_7 : decode cX8_ofPolicy 7 = .ok (.iconst 0, 1) := by decide +kernel
theorem dX8_ofPolicy_8 : decode cX8_ofPolicy 8 = .ok (.bipush 6, 2) := by decide +kernel
theorem dX8_ofPolicy_10 : decode cX8_ofPolicy 10 = .ok (.invokestatic 44, 3) := by decide +kernel
theorem dX8_ofPolicy_13 : decode cX8_ofPolicy 13 = .ok (.invokestatic 48, 3) := by decide +kernel
theorem dX8_ofPolicy_16 : decode cX8_ofPolicy 16 = .ok (.aload_n 0, 1) := by decide +kernel
theorem dX8_ofPolicy_17 : decode cX8_ofPolicy 17 = .ok (.aload_n 3, 1) := by decide +kernel
theorem dX8_ofPolicy_18 : decode cX8_ofPolicy 18 = .ok (.iload_n 2, 1) := by decide +kernel
theorem dX8_ofPolicy_19 : decode cX8_ofPolicy 19 = .ok (.invokevirtual 347, 3) := by decide +kernel
theorem dX8_ofPolicy_22 : decode cX8_ofPolicy 22 = .ok (.ireturn, 1) := by decide +kernel
theorem dX8_ofShipment_0 : decode cX8_ofShipment 0 = .ok (.aload_n 0, 1) := by decide +kernel
theorem dX8_ofShipment_1 : decode cX8_ofShipment 1 = .ok (.iload_n 1, 1) := by decide +kernel
theorem dX8_ofShipment_2 : decode cX8_ofShipment 2 = .ok (.invokevirtual 249, 3) := by decide +kernel
theorem dX8_ofShipment_5 : decode cX8_ofShipment 5 = .ok (.astore_n 3, 1) := by decide +kernel
theorem dX8_ofShipment_6 : decode cX8_ofShipment 6 = .ok (.iload_n 2, 1) := by decide +kernel
theorem dX8_ofShipment_7 : decode cX8_ofShipment 7 = .ok (.iconst 0, 1) := by decide +kernel
theorem dX8_ofShipment_8 : decode cX8_ofShipment 8 = .ok (.bipush 16, 2) := by decide +kernel
theorem dX8_ofShipment_10 : decode cX8_ofShipment 10 = .ok (.invokestatic 44, 3) := by decide +kernel
theorem dX8_ofShipment_13 : decode cX8_ofShipment 13 = .ok (.invokestatic 48, 3) := by decide +kernel
theorem dX8_ofShipment_16 : decode cX8_ofShipment 16 = .ok (.aload_n 0, 1) := by decide +kernel
theorem dX8_ofShipment_17 : decode cX8_ofShipment 17 = .ok (.aload_n 3, 1) := by decide +kernel
theorem dX8_ofShipment_18 : decode cX8_ofShipment 18 = .ok (.iload_n 2, 1) := by decide +kernel
theorem dX8_ofShipment_19 : decode cX8_ofShipment 19 = .ok (.invokevirtual 355, 3) := by decide +kernel
theorem dX8_ofShipment_22 : decode cX8_ofShipment 22 = .ok (.ireturn, 1) := by decide +kernel
theorem dX8_part_0 : decode cX8_part 0 = .ok (.aload_n 0, 1) := by decide +kernel
theorem dX8_part_1 : decode cX8_part 1 = .ok (.iload_n 1, 1) := by decide +kernel
theorem dX8_part_2 : decode cX8_part 2 = .ok (.invokevirtual 249, 3) := by decide +kernel
theorem dX8_part_5 : decode cX8_part 5 = .ok (.astore 4, 2) := by decide +kernel
theorem dX8_part_7 : decode cX8_part 7 = .ok (.iload_n 2, 1) := by decide +kernel
theorem dX8_part_8 : decode cX8_part 8 = .ok (.iconst 0, 1) := by decide +kernel
theorem dX8_part_9 : decode cX8_part 9 = .ok (.iconst 2, 1) := by decide +kernel
theorem dX8_part_10 : decode cX8_part 10 = .ok (.invokestatic 44, 3) := by decide +kernel
theorem dX8_part_13 : decode cX8_part 13 = .ok (.invokestatic 48, 3) := by decide +kernel
theorem dX8_part_16 : decode cX8_part 16 = .ok (.aload 4, 2) := by decide +kernel
theorem dX8_part_18 : decode cX8_part 18 = .ok (.iload_n 2, 1) := by decide +kernel
theorem dX8_part_19 : decode cX8_part 19 = .ok (.iload_n 3, 1) := by decide +kernel
theorem dX8_part_20 : decode cX8_part 20 = .ok (.invokestatic 359, 3) := by decide +kernel
theorem dX8_part_23 : decode cX8_part 23 = .ok (.ireturn, 1) := by decide +kernel
theorem dX8_books_0 : decode cX8_books 0 = .ok (.iload_n 1, 1) := by decide +kernel
theorem dX8_books_1 : decode cX8_books 1 = .ok (.iconst 0, 1) := by decide +kernel
theorem dX8_books_2 : decode cX8_books 2 = .ok (.bipush 19, 2) := by decide +kernel
theorem dX8_books_4 : decode cX8_books 4 = .ok (.invokestatic 44, 3) := by decide +kernel
theorem dX8_books_7 : decode cX8_books 7 = .ok (.invokestatic 48, 3) := by decide +kernel
theorem dX8_books_10 : decode cX8_books 10 = .ok (.aload_n 0, 1) := by decide +kernel
theorem dX8_books_11 : decode cX8_books 11 = .ok (.iload_n 1, 1) := by decide +kernel
theorem dX8_books_12 : decode cX8_books 12 = .ok (.invokevirtual 363, 3) := by decide +kernel
theorem dX8_books_15 : decode cX8_books 15 = .ok (.ireturn, 1) := by decide +kernel
theorem dX8_circles_0 : decode cX8_circles 0 = .ok (.iconst 0, 1) := by decide +kernel
theorem dX8_circles_1 : decode cX8_circles 1 = .ok (.istore_n 1, 1) := by decide +kernel
theorem dX8_circles_2 : decode cX8_circles 2 = .ok (.iconst 0, 1) := by decide +kernel
theorem dX8_circles_3 : decode cX8_circles 3 = .ok (.istore_n 2, 1) := by decide +kernel
theorem dX8_circles_4 : decode cX8_circles 4 = .ok (.iload_n 2, 1) := by decide +kernel
theorem dX8_circles_5 : decode cX8_circles 5 = .ok (.aload_n 0, 1) := by decide +kernel
theorem dX8_circles_6 : decode cX8_circles 6 = .ok (.getfield 19, 3) := by decide +kernel
theorem dX8_circles_9 : decode cX8_circles 9 = .ok (.invokevirtual 89, 3) := by decide +kernel
theorem dX8_circles_12 : decode cX8_circles 12 = .ok (.if_icmp .ge 33, 3) := by decide +kernel
theorem dX8_circles_15 : decode cX8_circles 15 = .ok (.aload_n 0, 1) := by decide +kernel
theorem dX8_circles_16 : decode cX8_circles 16 = .ok (.aload_n 0, 1) := by decide +kernel
theorem dX8_circles_17 : decode cX8_circles 17 = .ok (.getfield 19, 3) := by decide +kernel
theorem dX8_circles_20 : decode cX8_circles 20 = .ok (.iload_n 2, 1) := by decide +kernel
theorem dX8_circles_21 : decode cX8_circles 21 = .ok (.invokevirtual 306, 3) := by decide +kernel
theorem dX8_circles_24 : decode cX8_circles 24 = .ok (.checkcast 139, 3) := by decide +kernel
theorem dX8_circles_27 : decode cX8_circles 27 = .ok (.invokevirtual 377, 3) := by decide +kernel
theorem dX8_circles_30 : decode cX8_circles 30 = .ok (.ifCond .eq 9, 3) := by decide +kernel
theorem dX8_circles_33 : decode cX8_circles 33 = .ok (.iload_n 1, 1) := by decide +kernel
theorem dX8_circles_34 : decode cX8_circles 34 = .ok (.iconst 1, 1) := by decide +kernel
theorem dX8_circles_35 : decode cX8_circles 35 = .ok (.iload_n 2, 1) := by decide +kernel
theorem dX8_circles_36 : decode cX8_circles 36 = .ok (.ishl, 1) := by decide +kernel
theorem dX8_circles_37 : decode cX8_circles 37 = .ok (.ior, 1) := by decide +kernel
theorem dX8_circles_38 : decode cX8_circles 38 = .ok (.istore_n 1, 1) := by decide +kernel
theorem dX8_circles_39 : decode cX8_circles 39 = .ok (.iinc 2 1, 3) := by decide +kernel
theorem dX8_circles_42 : decode cX8_circles 42 = .ok (.goto (-38), 3) := by decide +kernel
theorem dX8_circles_45 : decode cX8_circles 45 = .ok (.iload_n 1, 1) := by decide +kernel
theorem dX8_circles_46 : decode cX8_circles 46 = .ok (.ireturn, 1) := by decide +kernel
theorem dX8_expected_0 : decode cX8_expected 0 = .ok (.dconst 0, 1) := by decide +kernel
theorem dX8_expected_1 : decode cX8_expected 1 = .ok (.dstore_n 1, 1) := by decide +kernel
theorem dX8_expected_2 : decode cX8_expected 2 = .ok (.iconst 0, 1) := by decide +kernel
theorem dX8_expected_3 : decode cX8_expected 3 = .ok (.istore_n 3, 1) := by decide +kernel
theorem dX8_expected_4 : decode cX8_expected 4 = .ok (.iload_n 3, 1) := by decide +kernel
theorem dX8_expected_5 : decode cX8_expected 5 = .ok (.aload_n 0, 1) := by decide +kernel
theorem dX8_expected_6 : decode cX8_expected 6 = .ok (.getfield 10, 3) := by decide +kernel
theorem dX8_expected_9 : decode cX8_expected 9 = .ok (.invokevirtual 89, 3) := by decide +kernel
theorem dX8_expected_12 : decode cX8_expected 12 = .ok (.if_icmp .ge 38, 3) := by decide +kernel
theorem dX8_expected_15 : decode cX8_expected 15 = .ok (.aload_n 0, 1) := by decide +kernel
theorem dX8_expected_16 : decode cX8_expected 16 = .ok (.getfield 10, 3) := by decide +kernel
theorem dX8_expected_19 : decode cX8_expected 19 = .ok (.iload_n 3, 1) := by decide +kernel
theorem dX8_expected_20 : decode cX8_expected 20 = .ok (.invokevirtual 306, 3) := by decide +kernel
theorem dX8_expected_23 : decode cX8_expected 23 = .ok (.checkcast 94, 3) := by decide +kernel
theorem dX8_expected_26 : decode cX8_expected 26 = .ok (.astore 4, 2) := by decide +kernel
theorem dX8_expected_28 : decode cX8_expected 28 = .ok (.dload_n 1, 1) := by decide +kernel
theorem dX8_expected_29 : decode cX8_expected 29 = .ok (.aload 4, 2) := by decide +kernel
theorem dX8_expected_31 : decode cX8_expected 31 = .ok (.invokevirtual 381, 3) := by decide +kernel
theorem dX8_expected_34 : decode cX8_expected 34 = .ok (.aload_n 0, 1) := by decide +kernel
theorem dX8_expected_35 : decode cX8_expected 35 = .ok (.aload 4, 2) := by decide +kernel
theorem dX8_expected_37 : decode cX8_expected 37 = .ok (.invokevirtual 385, 3) := by decide +kernel
theorem dX8_expected_40 : decode cX8_expected 40 = .ok (.i2d, 1) := by decide +kernel
theorem dX8_expected_41 : decode cX8_expected 41 = .ok (.dmul, 1) := by decide +kernel
theorem dX8_expected_42 : decode cX8_expected 42 = .ok (.dadd, 1) := by decide +kernel
theorem dX8_expected_43 : decode cX8_expected 43 = .ok (.dstore_n 1, 1) := by decide +kernel
theorem dX8_expected_44 : decode cX8_expected 44 = .ok (.iinc 3 1, 3) := by decide +kernel
theorem dX8_expected_47 : decode cX8_expected 47 = .ok (.goto (-43), 3) := by decide +kernel
theorem dX8_expected_50 : decode cX8_expected 50 = .ok (.dload_n 1, 1) := by decide +kernel
theorem dX8_expected_51 : decode cX8_expected 51 = .ok (.dreturn, 1) := by decide +kernel
theorem dX8_probable_0 : decode cX8_probable 0 = .ok (.iload_n 1, 1) := by decide +kernel
theorem dX8_probable_1 : decode cX8_probable 1 = .ok (.ifCond .lt 7, 3) := by decide +kernel
theorem dX8_probable_4 : decode cX8_probable 4 = .ok (.iconst 1, 1) := by decide +kernel
theorem dX8_probable_5 : decode cX8_probable 5 = .ok (.goto 4, 3) := by decide +kernel
theorem dX8_probable_8 : decode cX8_probable 8 = .ok (.iconst 0, 1) := by decide +kernel
theorem dX8_probable_9 : decode cX8_probable 9 = .ok (.invokestatic 48, 3) := by decide +kernel
theorem dX8_probable_12 : decode cX8_probable 12 = .ok (.iconst 5, 1) := by decide +kernel
theorem dX8_probable_13 : decode cX8_probable 13 = .ok (.newarray .int, 2) := by decide +kernel
theorem dX8_probable_15 : decode cX8_probable 15 = .ok (.astore_n 2, 1) := by decide +kernel
theorem dX8_probable_16 : decode cX8_probable 16 = .ok (.iconst 0, 1) := by decide +kernel
theorem dX8_probable_17 : decode cX8_probable 17 = .ok (.istore_n 3, 1) := by decide +kernel
theorem dX8_probable_18 : decode cX8_probable 18 = .ok (.iload_n 3, 1) := by decide +kernel
theorem dX8_probable_19 : decode cX8_probable 19 = .ok (.aload_n 0, 1) := by decide +kernel
end PD2
