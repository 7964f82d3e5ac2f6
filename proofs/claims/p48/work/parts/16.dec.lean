section PD6
theorem dX8_digestOfShipments_5 : decode cX8_digestOfShipments 5 = .ok (.dup, 1) := by decide +kernel
theorem dX8_digestOfShipments_6 : decode cX8_digestOfShipments 6 = .ok (.invokespecial 368, 3) := by decide +kernel
theorem dX8_digestOfShipments_9 : decode cX8_digestOfShipments 9 = .ok (.astore 5, 2) := by decide +kernel
theorem dX8_digestOfShipments_11 : decode cX8_digestOfShipments 11 = .ok (.iconst 0, 1) := by decide +kernel
theorem dX8_digestOfShipments_12 : decode cX8_digestOfShipments 12 = .ok (.istore 6, 2) := by decide +kernel
theorem dX8_digestOfShipments_14 : decode cX8_digestOfShipments 14 = .ok (.iload 6, 2) := by decide +kernel
theorem dX8_digestOfShipments_16 : decode cX8_digestOfShipments 16 = .ok (.aload_n 0, 1) := by decide +kernel
theorem dX8_digestOfShipments_17 : decode cX8_digestOfShipments 17 = .ok (.getfield 25, 3) := by decide +kernel
theorem dX8_digestOfShipments_20 : decode cX8_digestOfShipments 20 = .ok (.invokevirtual 89, 3) := by decide +kernel
theorem dX8_digestOfShipments_23 : decode cX8_digestOfShipments 23 = .ok (.if_icmp .ge 143, 3) := by decide +kernel
theorem dX8_digestOfShipments_26 : decode cX8_digestOfShipments 26 = .ok (.aload_n 0, 1) := by decide +kernel
theorem dX8_digestOfShipments_27 : decode cX8_digestOfShipments 27 = .ok (.getfield 25, 3) := by decide +kernel
theorem dX8_digestOfShipments_30 : decode cX8_digestOfShipments 30 = .ok (.iload 6, 2) := by decide +kernel
theorem dX8_digestOfShipments_32 : decode cX8_digestOfShipments 32 = .ok (.invokevirtual 306, 3) := by decide +kernel
theorem dX8_digestOfShipments_35 : decode cX8_digestOfShipments 35 = .ok (.checkcast 201, 3) := by decide +kernel
theorem dX8_digestOfShipments_38 : decode cX8_digestOfShipments 38 = .ok (.astore 7, 2) := by decide +kernel
theorem dX8_digestOfShipments_40 : decode cX8_digestOfShipments 40 = .ok (.iconst 0, 1) := by decide +kernel
theorem dX8_digestOfShipments_41 : decode cX8_digestOfShipments 41 = .ok (.istore 8, 2) := by decide +kernel
theorem dX8_digestOfShipments_43 : decode cX8_digestOfShipments 43 = .ok (.iload 8, 2) := by decide +kernel
theorem dX8_digestOfShipments_45 : decode cX8_digestOfShipments 45 = .ok (.bipush 17, 2) := by decide +kernel
theorem dX8_digestOfShipments_47 : decode cX8_digestOfShipments 47 = .ok (.if_icmp .ge 25, 3) := by decide +kernel
theorem dX8_digestOfShipments_50 : decode cX8_digestOfShipments 50 = .ok (.lload_n 3, 1) := by decide +kernel
theorem dX8_digestOfShipments_51 : decode cX8_digestOfShipments 51 = .ok (.ldc2_w 408, 3) := by decide +kernel
theorem dX8_digestOfShipments_54 : decode cX8_digestOfShipments 54 = .ok (.lmul, 1) := by decide +kernel
theorem dX8_digestOfShipments_55 : decode cX8_digestOfShipments 55 = .ok (.aload_n 0, 1) := by decide +kernel
theorem dX8_digestOfShipments_56 : decode cX8_digestOfShipments 56 = .ok (.aload 7, 2) := by decide +kernel
theorem dX8_digestOfShipments_58 : decode cX8_digestOfShipments 58 = .ok (.iload 8, 2) := by decide +kernel
theorem dX8_digestOfShipments_60 : decode cX8_digestOfShipments 60 = .ok (.invokevirtual 355, 3) := by decide +kernel
theorem dX8_digestOfShipments_63 : decode cX8_digestOfShipments 63 = .ok (.i2l, 1) := by decide +kernel
theorem dX8_digestOfShipments_64 : decode cX8_digestOfShipments 64 = .ok (.ladd, 1) := by decide +kernel
theorem dX8_digestOfShipments_65 : decode cX8_digestOfShipments 65 = .ok (.lstore_n 3, 1) := by decide +kernel
theorem dX8_digestOfShipments_66 : decode cX8_digestOfShipments 66 = .ok (.iinc 8 1, 3) := by decide +kernel
theorem dX8_digestOfShipments_69 : decode cX8_digestOfShipments 69 = .ok (.goto (-26), 3) := by decide +kernel
theorem dX8_digestOfShipments_72 : decode cX8_digestOfShipments 72 = .ok (.iconst 0, 1) := by decide +kernel
theorem dX8_digestOfShipments_73 : decode cX8_digestOfShipments 73 = .ok (.istore 8, 2) := by decide +kernel
theorem dX8_digestOfShipments_75 : decode cX8_digestOfShipments 75 = .ok (.iload 8, 2) := by decide +kernel
theorem dX8_digestOfShipments_77 : decode cX8_digestOfShipments 77 = .ok (.iconst 3, 1) := by decide +kernel
theorem dX8_digestOfShipments_78 : decode cX8_digestOfShipments 78 = .ok (.if_icmp .ge 41, 3) := by decide +kernel
theorem dX8_digestOfShipments_81 : decode cX8_digestOfShipments 81 = .ok (.lload_n 3, 1) := by decide +kernel
theorem dX8_digestOfShipments_82 : decode cX8_digestOfShipments 82 = .ok (.ldc2_w 408, 3) := by decide +kernel
theorem dX8_digestOfShipments_85 : decode cX8_digestOfShipments 85 = .ok (.lmul, 1) := by decide +kernel
theorem dX8_digestOfShipments_86 : decode cX8_digestOfShipments 86 = .ok (.aload 7, 2) := by decide +kernel
theorem dX8_digestOfShipments_88 : decode cX8_digestOfShipments 88 = .ok (.iload 8, 2) := by decide +kernel
theorem dX8_digestOfShipments_90 : decode cX8_digestOfShipments 90 = .ok (.iconst 0, 1) := by decide +kernel
theorem dX8_digestOfShipments_91 : decode cX8_digestOfShipments 91 = .ok (.invokestatic 359, 3) := by decide +kernel
theorem dX8_digestOfShipments_94 : decode cX8_digestOfShipments 94 = .ok (.i2l, 1) := by decide +kernel
theorem dX8_digestOfShipments_95 : decode cX8_digestOfShipments 95 = .ok (.ladd, 1) := by decide +kernel
theorem dX8_digestOfShipments_96 : decode cX8_digestOfShipments 96 = .ok (.lstore_n 3, 1) := by decide +kernel
theorem dX8_digestOfShipments_97 : decode cX8_digestOfShipments 97 = .ok (.lload_n 3, 1) := by decide +kernel
theorem dX8_digestOfShipments_98 : decode cX8_digestOfShipments 98 = .ok (.ldc2_w 408, 3) := by decide +kernel
theorem dX8_digestOfShipments_101 : decode cX8_digestOfShipments 101 = .ok (.lmul, 1) := by decide +kernel
theorem dX8_digestOfShipments_102 : decode cX8_digestOfShipments 102 = .ok (.aload 7, 2) := by decide +kernel
theorem dX8_digestOfShipments_104 : decode cX8_digestOfShipments 104 = .ok (.iload 8, 2) := by decide +kernel
theorem dX8_digestOfShipments_106 : decode cX8_digestOfShipments 106 = .ok (.iconst 1, 1) := by decide +kernel
theorem dX8_digestOfShipments_107 : decode cX8_digestOfShipments 107 = .ok (.invokestatic 359, 3) := by decide +kernel
theorem dX8_digestOfShipments_110 : decode cX8_digestOfShipments 110 = .ok (.i2l, 1) := by decide +kernel
theorem dX8_digestOfShipments_111 : decode cX8_digestOfShipments 111 = .ok (.ladd, 1) := by decide +kernel
theorem dX8_digestOfShipments_112 : decode cX8_digestOfShipments 112 = .ok (.lstore_n 3, 1) := by decide +kernel
theorem dX8_digestOfShipments_113 : decode cX8_digestOfShipments 113 = .ok (.iinc 8 1, 3) := by decide +kernel
theorem dX8_digestOfShipments_116 : decode cX8_digestOfShipments 116 = .ok (.goto (-41), 3) := by decide +kernel
theorem dX8_digestOfShipments_119 : decode cX8_digestOfShipments 119 = .ok (.lload_n 3, 1) := by decide +kernel
theorem dX8_digestOfShipments_120 : decode cX8_digestOfShipments 120 = .ok (.ldc2_w 408, 3) := by decide +kernel
theorem dX8_digestOfShipments_123 : decode cX8_digestOfShipments 123 = .ok (.lmul, 1) := by decide +kernel
theorem dX8_digestOfShipments_124 : decode cX8_digestOfShipments 124 = .ok (.aload 7, 2) := by decide +kernel
theorem dX8_digestOfShipments_126 : decode cX8_digestOfShipments 126 = .ok (.invokevirtual 271, 3) := by decide +kernel
theorem dX8_digestOfShipments_129 : decode cX8_digestOfShipments 129 = .ok (.i2l, 1) := by decide +kernel
theorem dX8_digestOfShipments_130 : decode cX8_digestOfShipments 130 = .ok (.ladd, 1) := by decide +kernel
theorem dX8_digestOfShipments_131 : decode cX8_digestOfShipments 131 = .ok (.lstore_n 3, 1) := by decide +kernel
theorem dX8_digestOfShipments_132 : decode cX8_digestOfShipments 132 = .ok (.aload 5, 2) := by decide +kernel
theorem dX8_digestOfShipments_134 : decode cX8_digestOfShipments 134 = .ok (.iconst 0, 1) := by decide +kernel
theorem dX8_digestOfShipments_135 : decode cX8_digestOfShipments 135 = .ok (.invokevirtual 632, 3) := by decide +kernel
theorem dX8_digestOfShipments_138 : decode cX8_digestOfShipments 138 = .ok (.aload 5, 2) := by decide +kernel
theorem dX8_digestOfShipments_140 : decode cX8_digestOfShipments 140 = .ok (.iload 6, 2) := by decide +kernel
theorem dX8_digestOfShipments_142 : decode cX8_digestOfShipments 142 = .ok (.aload 7, 2) := by decide +kernel
theorem dX8_digestOfShipments_144 : decode cX8_digestOfShipments 144 = .ok (.invokestatic 369, 3) := by decide +kernel
theorem dX8_digestOfShipments_147 : decode cX8_digestOfShipments 147 = .ok (.lload_n 3, 1) := by decide +kernel
theorem dX8_digestOfShipments_148 : decode cX8_digestOfShipments 148 = .ok (.ldc2_w 408, 3) := by decide +kernel
theorem dX8_digestOfShipments_151 : decode cX8_digestOfShipments 151 = .ok (.lmul, 1) := by decide +kernel
theorem dX8_digestOfShipments_152 : decode cX8_digestOfShipments 152 = .ok (.aload 5, 2) := by decide +kernel
theorem dX8_digestOfShipments_154 : decode cX8_digestOfShipments 154 = .ok (.invokevirtual 635, 3) := by decide +kernel
theorem dX8_digestOfShipments_157 : decode cX8_digestOfShipments 157 = .ok (.i2l, 1) := by decide +kernel
theorem dX8_digestOfShipments_158 : decode cX8_digestOfShipments 158 = .ok (.ladd, 1) := by decide +kernel
theorem dX8_digestOfShipments_159 : decode cX8_digestOfShipments 159 = .ok (.lstore_n 3, 1) := by decide +kernel
theorem dX8_digestOfShipments_160 : decode cX8_digestOfShipments 160 = .ok (.iinc 6 1, 3) := by decide +kernel
theorem dX8_digestOfShipments_163 : decode cX8_digestOfShipments 163 = .ok (.goto (-149), 3) := by decide +kernel
theorem dX8_digestOfShipments_166 : decode cX8_digestOfShipments 166 = .ok (.lload_n 3, 1) := by decide +kernel
theorem dX8_digestOfShipments_167 : decode cX8_digestOfShipments 167 = .ok (.lreturn, 1) := by decide +kernel
theorem dL_below_0 : decode cL_below 0 = .ok (.iload_n 0, 1) := by decide +kernel
theorem dL_below_1 : decode cL_below 1 = .ok (.ldc 7, 2) := by decide +kernel
theorem dL_below_3 : decode cL_below 3 = .ok (.iand, 1) := by decide +kernel
theorem dL_below_4 : decode cL_below 4 = .ok (.iload_n 1, 1) := by decide +kernel
theorem dL_below_5 : decode cL_below 5 = .ok (.irem, 1) := by decide +kernel
theorem dL_below_6 : decode cL_below 6 = .ok (.ireturn, 1) := by decide +kernel
theorem dL_cell_0 : decode cL_cell 0 = .ok (.iload_n 1, 1) := by decide +kernel
theorem dL_cell_1 : decode cL_cell 1 = .ok (.aload_n 0, 1) := by decide +kernel
theorem dL_cell_2 : decode cL_cell 2 = .ok (.arraylength, 1) := by decide +kernel
theorem dL_cell_3 : decode cL_cell 3 = .ok (.if_icmp .ge 9, 3) := by decide +kernel
theorem dL_cell_6 : decode cL_cell 6 = .ok (.aload_n 0, 1) := by decide +kernel
theorem dL_cell_7 : decode cL_cell 7 = .ok (.iload_n 1, 1) := by decide +kernel
theorem dL_cell_8 : decode cL_cell 8 = .ok (.iaload, 1) := by decide +kernel
theorem dL_cell_9 : decode cL_cell 9 = .ok (.goto 9, 3) := by decide +kernel
theorem dL_cell_12 : decode cL_cell 12 = .ok (.ldc 8, 2) := by decide +kernel
theorem dL_cell_14 : decode cL_cell 14 = .ok (.iload_n 1, 1) := by decide +kernel
theorem dL_cell_15 : decode cL_cell 15 = .ok (.iconst 3, 1) := by decide +kernel
theorem dL_cell_16 : decode cL_cell 16 = .ok (.iadd, 1) := by decide +kernel
theorem dL_cell_17 : decode cL_cell 17 = .ok (.imul, 1) := by decide +kernel
theorem dL_cell_18 : decode cL_cell 18 = .ok (.ireturn, 1) := by decide +kernel
theorem dL_office_0 : decode cL_office 0 = .ok (.new 9, 3) := by decide +kernel
theorem dL_office_3 : decode cL_office 3 = .ok (.dup, 1) := by decide +kernel
theorem dL_office_4 : decode cL_office 4 = .ok (.invokespecial 11, 3) := by decide +kernel
theorem dL_office_7 : decode cL_office 7 = .ok (.astore_n 1, 1) := by decide +kernel
theorem dL_office_8 : decode cL_office 8 = .ok (.aload_n 0, 1) := by decide +kernel
theorem dL_office_9 : decode cL_office 9 = .ok (.iconst 0, 1) := by decide +kernel
theorem dL_office_10 : decode cL_office 10 = .ok (.invokestatic 12, 3) := by decide +kernel
theorem dL_office_13 : decode cL_office 13 = .ok (.iconst 2, 1) := by decide +kernel
theorem dL_office_14 : decode cL_office 14 = .ok (.invokestatic 18, 3) := by decide +kernel
theorem dL_office_17 : decode cL_office 17 = .ok (.ifCond .ne 21, 3) := by decide +kernel
theorem dL_office_20 : decode cL_office 20 = .ok (.aload_n 1, 1) := by decide +kernel
theorem dL_office_21 : decode cL_office 21 = .ok (.aload_n 0, 1) := by decide +kernel
theorem dL_office_22 : decode cL_office 22 = .ok (.iconst 1, 1) := by decide +kernel
theorem dL_office_23 : decode cL_office 23 = .ok (.invokestatic 12, 3) := by decide +kernel
theorem dL_office_26 : decode cL_office 26 = .ok (.bipush 100, 2) := by decide +kernel
theorem dL_office_28 : decode cL_office 28 = .ok (.invokestatic 18, 3) := by decide +kernel
theorem dL_office_31 : decode cL_office 31 = .ok (.invokevirtual 22, 3) := by decide +kernel
theorem dL_office_34 : decode cL_office 34 = .ok (.pop, 1) := by decide +kernel
theorem dL_office_35 : decode cL_office 35 = .ok (.goto 125, 3) := by decide +kernel
theorem dL_office_38 : decode cL_office 38 = .ok (.iconst 0, 1) := by decide +kernel
theorem dL_office_39 : decode cL_office 39 = .ok (.istore_n 2, 1) := by decide +kernel
theorem dL_office_40 : decode cL_office 40 = .ok (.iload_n 2, 1) := by decide +kernel
theorem dL_office_41 : decode cL_office 41 = .ok (.iconst 3, 1) := by decide +kernel
theorem dL_office_42 : decode cL_office 42 = .ok (.if_icmp .ge 51, 3) := by decide +kernel
theorem dL_office_45 : decode cL_office 45 = .ok (.aload_n 1, 1) := by decide +kernel
theorem dL_office_46 : decode cL_office 46 = .ok (.aload_n 0, 1) := by decide +kernel
theorem dL_office_47 : decode cL_office 47 = .ok (.iconst 1, 1) := by decide +kernel
theorem dL_office_48 : decode cL_office 48 = .ok (.invokestatic 12, 3) := by decide +kernel
theorem dL_office_51 : decode cL_office 51 = .ok (.iconst 3, 1) := by decide +kernel
theorem dL_office_52 : decode cL_office 52 = .ok (.iload_n 2, 1) := by decide +kernel
theorem dL_office_53 : decode cL_office 53 = .ok (.imul, 1) := by decide +kernel
theorem dL_office_54 : decode cL_office 54 = .ok (.ishr, 1) := by decide +kernel
theorem dL_office_55 : decode cL_office 55 = .ok (.bipush 8, 2) := by decide +kernel
theorem dL_office_57 : decode cL_office 57 = .ok (.invokestatic 18, 3) := by decide +kernel
theorem dL_office_60 : decode cL_office 60 = .ok (.sipush 1000, 3) := by decide +kernel
theorem dL_office_63 : decode cL_office 63 = .ok (.aload_n 0, 1) := by decide +kernel
theorem dL_office_64 : decode cL_office 64 = .ok (.iconst 2, 1) := by decide +kernel
theorem dL_office_65 : decode cL_office 65 = .ok (.invokestatic 12, 3) := by decide +kernel
theorem dL_office_68 : decode cL_office 68 = .ok (.iconst 4, 1) := by decide +kernel
theorem dL_office_69 : decode cL_office 69 = .ok (.iload_n 2, 1) := by decide +kernel
theorem dL_office_70 : decode cL_office 70 = .ok (.imul, 1) := by decide +kernel
theorem dL_office_71 : decode cL_office 71 = .ok (.ishr, 1) := by decide +kernel
theorem dL_office_72 : decode cL_office 72 = .ok (.bipush 20, 2) := by decide +kernel
theorem dL_office_74 : decode cL_office 74 = .ok (.invokestatic 18, 3) := by decide +kernel
theorem dL_office_77 : decode cL_office 77 = .ok (.imul, 1) := by decide +kernel
theorem dL_office_78 : decode cL_office 78 = .ok (.invokevirtual 26, 3) := by decide +kernel
theorem dL_office_81 : decode cL_office 81 = .ok (.pop, 1) := by decide +kernel
theorem dL_office_82 : decode cL_office 82 = .ok (.aload_n 1, 1) := by decide +kernel
theorem dL_office_83 : decode cL_office 83 = .ok (.invokevirtual 29, 3) := by decide +kernel
theorem dL_office_86 : decode cL_office 86 = .ok (.pop, 1) := by decide +kernel
theorem dL_office_87 : decode cL_office 87 = .ok (.iinc 2 1, 3) := by decide +kernel
theorem dL_office_90 : decode cL_office 90 = .ok (.goto (-50), 3) := by decide +kernel
theorem dL_office_93 : decode cL_office 93 = .ok (.iconst 0, 1) := by decide +kernel
theorem dL_office_94 : decode cL_office 94 = .ok (.istore_n 2, 1) := by decide +kernel
theorem dL_office_95 : decode cL_office 95 = .ok (.iload_n 2, 1) := by decide +kernel
theorem dL_office_96 : decode cL_office 96 = .ok (.bipush 6, 2) := by decide +kernel
theorem dL_office_98 : decode cL_office 98 = .ok (.if_icmp .ge 62, 3) := by decide +kernel
theorem dL_office_101 : decode cL_office 101 = .ok (.aload_n 1, 1) := by decide +kernel
theorem dL_office_102 : decode cL_office 102 = .ok (.aload_n 0, 1) := by decide +kernel
theorem dL_office_103 : decode cL_office 103 = .ok (.iconst 3, 1) := by decide +kernel
theorem dL_office_104 : decode cL_office 104 = .ok (.invokestatic 12, 3) := by decide +kernel
theorem dL_office_107 : decode cL_office 107 = .ok (.iconst 2, 1) := by decide +kernel
theorem dL_office_108 : decode cL_office 108 = .ok (.iload_n 2, 1) := by decide +kernel
theorem dL_office_109 : decode cL_office 109 = .ok (.imul, 1) := by decide +kernel
theorem dL_office_110 : decode cL_office 110 = .ok (.ishr, 1) := by decide +kernel
theorem dL_office_111 : decode cL_office 111 = .ok (.iconst 3, 1) := by decide +kernel
theorem dL_office_112 : decode cL_office 112 = .ok (.invokestatic 18, 3) := by decide +kernel
theorem dL_office_115 : decode cL_office 115 = .ok (.aload_n 0, 1) := by decide +kernel
theorem dL_office_116 : decode cL_office 116 = .ok (.iconst 4, 1) := by decide +kernel
theorem dL_office_117 : decode cL_office 117 = .ok (.invokestatic 12, 3) := by decide +kernel
theorem dL_office_120 : decode cL_office 120 = .ok (.iconst 2, 1) := by decide +kernel
theorem dL_office_121 : decode cL_office 121 = .ok (.iload_n 2, 1) := by decide +kernel
theorem dL_office_122 : decode cL_office 122 = .ok (.imul, 1) := by decide +kernel
theorem dL_office_123 : decode cL_office 123 = .ok (.ishr, 1) := by decide +kernel
theorem dL_office_124 : decode cL_office 124 = .ok (.bipush 6, 2) := by decide +kernel
theorem dL_office_126 : decode cL_office 126 = .ok (.invokestatic 18, 3) := by decide +kernel
theorem dL_office_129 : decode cL_office 129 = .ok (.invokevirtual 33, 3) := by decide +kernel
theorem dL_office_132 : decode cL_office 132 = .ok (.pop, 1) := by decide +kernel
theorem dL_office_133 : decode cL_office 133 = .ok (.aload_n 1, 1) := by decide +kernel
theorem dL_office_134 : decode cL_office 134 = .ok (.iload_n 2, 1) := by decide +kernel
theorem dL_office_135 : decode cL_office 135 = .ok (.iconst 1, 1) := by decide +kernel
theorem dL_office_136 : decode cL_office 136 = .ok (.aload_n 0, 1) := by decide +kernel
theorem dL_office_137 : decode cL_office 137 = .ok (.iconst 5, 1) := by decide +kernel
theorem dL_office_138 : decode cL_office 138 = .ok (.invokestatic 12, 3) := by decide +kernel
theorem dL_office_141 : decode cL_office 141 = .ok (.iload_n 2, 1) := by decide +kernel
theorem dL_office_142 : decode cL_office 142 = .ok (.ishr, 1) := by decide +kernel
theorem dL_office_143 : decode cL_office 143 = .ok (.sipush 3000, 3) := by decide +kernel
theorem dL_office_146 : decode cL_office 146 = .ok (.invokestatic 18, 3) := by decide +kernel
theorem dL_office_149 : decode cL_office 149 = .ok (.iadd, 1) := by decide +kernel
theorem dL_office_150 : decode cL_office 150 = .ok (.invokevirtual 36, 3) := by decide +kernel
theorem dL_office_153 : decode cL_office 153 = .ok (.pop, 1) := by decide +kernel
theorem dL_office_154 : decode cL_office 154 = .ok (.iinc 2 1, 3) := by decide +kernel
theorem dL_office_157 : decode cL_office 157 = .ok (.goto (-62), 3) := by decide +kernel
theorem dL_office_160 : decode cL_office 160 = .ok (.iconst 0, 1) := by decide +kernel
theorem dL_office_161 : decode cL_office 161 = .ok (.istore_n 2, 1) := by decide +kernel
theorem dL_office_162 : decode cL_office 162 = .ok (.iload_n 2, 1) := by decide +kernel
theorem dL_office_163 : decode cL_office 163 = .ok (.iconst 3, 1) := by decide +kernel
theorem dL_office_164 : decode cL_office 164 = .ok (.if_icmp .ge 131, 3) := by decide +kernel
theorem dL_office_167 : decode cL_office 167 = .ok (.aload_n 0, 1) := by decide +kernel
theorem dL_office_168 : decode cL_office 168 = .ok (.bipush 6, 2) := by decide +kernel
theorem dL_office_170 : decode cL_office 170 = .ok (.invokestatic 12, 3) := by decide +kernel
theorem dL_office_173 : decode cL_office 173 = .ok (.iconst 2, 1) := by decide +kernel
theorem dL_office_174 : decode cL_office 174 = .ok (.iload_n 2, 1) := by decide +kernel
theorem dL_office_175 : decode cL_office 175 = .ok (.imul, 1) := by decide +kernel
theorem dL_office_176 : decode cL_office 176 = .ok (.ishr, 1) := by decide +kernel
theorem dL_office_177 : decode cL_office 177 = .ok (.iconst 3, 1) := by decide +kernel
theorem dL_office_178 : decode cL_office 178 = .ok (.invokestatic 18, 3) := by decide +kernel
theorem dL_office_181 : decode cL_office 181 = .ok (.iconst 1, 1) := by decide +kernel
theorem dL_office_182 : decode cL_office 182 = .ok (.isub, 1) := by decide +kernel
theorem dL_office_183 : decode cL_office 183 = .ok (.istore_n 3, 1) := by decide +kernel
theorem dL_office_184 : decode cL_office 184 = .ok (.aload_n 1, 1) := by decide +kernel
theorem dL_office_185 : decode cL_office 185 = .ok (.aload_n 0, 1) := by decide +kernel
theorem dL_office_186 : decode cL_office 186 = .ok (.bipush 7, 2) := by decide +kernel
theorem dL_office_188 : decode cL_office 188 = .ok (.invokestatic 12, 3) := by decide +kernel
theorem dL_office_191 : decode cL_office 191 = .ok (.iconst 2, 1) := by decide +kernel
theorem dL_office_192 : decode cL_office 192 = .ok (.iload_n 2, 1) := by decide +kernel
theorem dL_office_193 : decode cL_office 193 = .ok (.imul, 1) := by decide +kernel
theorem dL_office_194 : decode cL_office 194 = .ok (.ishr, 1) := by decide +kernel
theorem dL_office_195 : decode cL_office 195 = .ok (.iconst 3, 1) := by decide +kernel
theorem dL_office_196 : decode cL_office 196 = .ok (.invokestatic 18, 3) := by decide +kernel
theorem dL_office_199 : decode cL_office 199 = .ok (.bipush 50, 2) := by decide +kernel
theorem dL_office_201 : decode cL_office 201 = .ok (.aload_n 0, 1) := by decide +kernel
theorem dL_office_202 : decode cL_office 202 = .ok (.bipush 8, 2) := by decide +kernel
theorem dL_office_204 : decode cL_office 204 = .ok (.invokestatic 12, 3) := by decide +kernel
theorem dL_office_207 : decode cL_office 207 = .ok (.iconst 3, 1) := by decide +kernel
theorem dL_office_208 : decode cL_office 208 = .ok (.iload_n 2, 1) := by decide +kernel
theorem dL_office_209 : decode cL_office 209 = .ok (.imul, 1) := by decide +kernel
theorem dL_office_210 : decode cL_office 210 = .ok (.ishr, 1) := by decide +kernel
theorem dL_office_211 : decode cL_office 211 = .ok (.bipush 46, 2) := by decide +kernel
theorem dL_office_213 : decode cL_office 213 = .ok (.invokestatic 18, 3) := by decide +kernel
theorem dL_office_216 : decode cL_office 216 = .ok (.iadd, 1) := by decide +kernel
theorem dL_office_217 : decode cL_office 217 = .ok (.iload_n 3, 1) := by decide +kernel
theorem dL_office_218 : decode cL_office 218 = .ok (.iload_n 3, 1) := by decide +kernel
theorem dL_office_219 : decode cL_office 219 = .ok (.ifCond .ge 7, 3) := by decide +kernel
theorem dL_office_222 : decode cL_office 222 = .ok (.iconst 0, 1) := by decide +kernel
theorem dL_office_223 : decode cL_office 223 = .ok (.goto 18, 3) := by decide +kernel
theorem dL_office_226 : decode cL_office 226 = .ok (.aload_n 0, 1) := by decide +kernel
theorem dL_office_227 : decode cL_office 227 = .ok (.bipush 9, 2) := by decide +kernel
theorem dL_office_229 : decode cL_office 229 = .ok (.invokestatic 12, 3) := by decide +kernel
theorem dL_office_232 : decode cL_office 232 = .ok (.iconst 3, 1) := by decide +kernel
theorem dL_office_233 : decode cL_office 233 = .ok (.iload_n 2, 1) := by decide +kernel
theorem dL_office_234 : decode cL_office 234 = .ok (.imul, 1) := by decide +kernel
theorem dL_office_235 : decode cL_office 235 = .ok (.ishr, 1) := by decide +kernel
theorem dL_office_236 : decode cL_office 236 = .ok (.bipush 61, 2) := by decide +kernel
theorem dL_office_238 : decode cL_office 238 = .ok (.invokestatic 18, 3) := by decide +kernel
theorem dL_office_241 : decode cL_office 241 = .ok (.invokevirtual 39, 3) := by decide +kernel
theorem dL_office_244 : decode cL_office 244 = .ok (.pop, 1) := by decide +kernel
theorem dL_office_245 : decode cL_office 245 = .ok (.iconst 0, 1) := by decide +kernel
theorem dL_office_246 : decode cL_office 246 = .ok (.istore 4, 2) := by decide +kernel
theorem dL_office_248 : decode cL_office 248 = .ok (.iload 4, 2) := by decide +kernel
theorem dL_office_250 : decode cL_office 250 = .ok (.bipush 6, 2) := by decide +kernel
theorem dL_office_252 : decode cL_office 252 = .ok (.if_icmp .ge 37, 3) := by decide +kernel
theorem dL_office_255 : decode cL_office 255 = .ok (.aload_n 1, 1) := by decide +kernel
theorem dL_office_256 : decode cL_office 256 = .ok (.iload_n 2, 1) := by decide +kernel
theorem dL_office_257 : decode cL_office 257 = .ok (.iload 4, 2) := by decide +kernel
theorem dL_office_259 : decode cL_office 259 = .ok (.sipush 300, 3) := by decide +kernel
theorem dL_office_262 : decode cL_office 262 = .ok (.aload_n 0, 1) := by decide +kernel
theorem dL_office_263 : decode cL_office 263 = .ok (.bipush 10, 2) := by decide +kernel
theorem dL_office_265 : decode cL_office 265 = .ok (.invokestatic 12, 3) := by decide +kernel
theorem dL_office_268 : decode cL_office 268 = .ok (.iload_n 2, 1) := by decide +kernel
theorem dL_office_269 : decode cL_office 269 = .ok (.iload 4, 2) := by decide +kernel
theorem dL_office_271 : decode cL_office 271 = .ok (.iadd, 1) := by decide +kernel
theorem dL_office_272 : decode cL_office 272 = .ok (.ishr, 1) := by decide +kernel
theorem dL_office_273 : decode cL_office 273 = .ok (.bipush 40, 2) := by decide +kernel
theorem dL_office_275 : decode cL_office 275 = .ok (.invokestatic 18, 3) := by decide +kernel
theorem dL_office_278 : decode cL_office 278 = .ok (.imul, 1) := by decide +kernel
theorem dL_office_279 : decode cL_office 279 = .ok (.invokevirtual 43, 3) := by decide +kernel
theorem dL_office_282 : decode cL_office 282 = .ok (.pop, 1) := by decide +kernel
theorem dL_office_283 : decode cL_office 283 = .ok (.iinc 4 1, 3) := by decide +kernel
theorem dL_office_286 : decode cL_office 286 = .ok (.goto (-38), 3) := by decide +kernel
theorem dL_office_289 : decode cL_office 289 = .ok (.iinc 2 1, 3) := by decide +kernel
theorem dL_office_292 : decode cL_office 292 = .ok (.goto (-130), 3) := by decide +kernel
theorem dL_office_295 : decode cL_office 295 = .ok (.aload_n 1, 1) := by decide +kernel
theorem dL_office_296 : decode cL_office 296 = .ok (.areturn, 1) := by decide +kernel
theorem dL_isDone_0 : decode cL_isDone 0 = .ok (.iload_n 1, 1) := by decide +kernel
theorem dL_isDone_1 : decode cL_isDone 1 = .ok (.bipush 6, 2) := by decide +kernel
theorem dL_isDone_3 : decode cL_isDone 3 = .ok (.ishr, 1) := by decide +kernel
theorem dL_isDone_4 : decode cL_isDone 4 = .ok (.iconst 3, 1) := by decide +kernel
theorem dL_isDone_5 : decode cL_isDone 5 = .ok (.invokestatic 18, 3) := by decide +kernel
theorem dL_isDone_8 : decode cL_isDone 8 = .ok (.istore_n 2, 1) := by decide +kernel
theorem dL_isDone_9 : decode cL_isDone 9 = .ok (.iload_n 1, 1) := by decide +kernel
theorem dL_isDone_10 : decode cL_isDone 10 = .ok (.bipush 7, 2) := by decide +kernel
theorem dL_isDone_12 : decode cL_isDone 12 = .ok (.ishr, 1) := by decide +kernel
theorem dL_isDone_13 : decode cL_isDone 13 = .ok (.bipush 6, 2) := by decide +kernel
theorem dL_isDone_15 : decode cL_isDone 15 = .ok (.invokestatic 18, 3) := by decide +kernel
theorem dL_isDone_18 : decode cL_isDone 18 = .ok (.istore_n 3, 1) := by decide +kernel
theorem dL_isDone_19 : decode cL_isDone 19 = .ok (.iload_n 1, 1) := by decide +kernel
theorem dL_isDone_20 : decode cL_isDone 20 = .ok (.bipush 9, 2) := by decide +kernel
theorem dL_isDone_22 : decode cL_isDone 22 = .ok (.ishr, 1) := by decide +kernel
theorem dL_isDone_23 : decode cL_isDone 23 = .ok (.iconst 3, 1) := by decide +kernel
theorem dL_isDone_24 : decode cL_isDone 24 = .ok (.invokestatic 18, 3) := by decide +kernel
theorem dL_isDone_27 : decode cL_isDone 27 = .ok (.istore 4, 2) := by decide +kernel
theorem dL_isDone_29 : decode cL_isDone 29 = .ok (.aload_n 0, 1) := by decide +kernel
theorem dL_isDone_30 : decode cL_isDone 30 = .ok (.bipush 6, 2) := by decide +kernel
theorem dL_isDone_32 : decode cL_isDone 32 = .ok (.invokevirtual 47, 3) := by decide +kernel
theorem dL_isDone_35 : decode cL_isDone 35 = .ok (.istore 5, 2) := by decide +kernel
theorem dL_isDone_37 : decode cL_isDone 37 = .ok (.iload_n 1, 1) := by decide +kernel
theorem dL_isDone_38 : decode cL_isDone 38 = .ok (.bipush 8, 2) := by decide +kernel
theorem dL_isDone_40 : decode cL_isDone 40 = .ok (.ishr, 1) := by decide +kernel
theorem dL_isDone_41 : decode cL_isDone 41 = .ok (.iconst 1, 1) := by decide +kernel
theorem dL_isDone_42 : decode cL_isDone 42 = .ok (.iload 5, 2) := by decide +kernel
theorem dL_isDone_44 : decode cL_isDone 44 = .ok (.invokestatic 50, 3) := by decide +kernel
theorem dL_isDone_47 : decode cL_isDone 47 = .ok (.invokestatic 18, 3) := by decide +kernel
theorem dL_isDone_50 : decode cL_isDone 50 = .ok (.istore 6, 2) := by decide +kernel
theorem dL_isDone_52 : decode cL_isDone 52 = .ok (.iload_n 1, 1) := by decide +kernel
theorem dL_isDone_53 : decode cL_isDone 53 = .ok (.bipush 23, 2) := by decide +kernel
theorem dL_isDone_55 : decode cL_isDone 55 = .ok (.invokestatic 18, 3) := by decide +kernel
theorem dL_isDone_58 : decode cL_isDone 58 = .ok (.tableswitch 462 0 21 #[102, 102, 102, 102, 102, 168, 188, 208, 208, 218, 228, 253, 253, 263, 284, 314, 324, 348, 372, 391, 411, 442], 102) := by decide +kernel
theorem dL_isDone_160 : decode cL_isDone 160 = .ok (.aload_n 0, 1) := by decide +kernel
theorem dL_isDone_161 : decode cL_isDone 161 = .ok (.iload 4, 2) := by decide +kernel
theorem dL_isDone_163 : decode cL_isDone 163 = .ok (.iload_n 3, 1) := by decide +kernel
theorem dL_isDone_164 : decode cL_isDone 164 = .ok (.iconst 1, 1) := by decide +kernel
theorem dL_isDone_165 : decode cL_isDone 165 = .ok (.iload_n 1, 1) := by decide +kernel
theorem dL_isDone_166 : decode cL_isDone 166 = .ok (.iconst 3, 1) := by decide +kernel
theorem dL_isDone_167 : decode cL_isDone 167 = .ok (.ishr, 1) := by decide +kernel
theorem dL_isDone_168 : decode cL_isDone 168 = .ok (.sipush 3000, 3) := by decide +kernel
theorem dL_isDone_171 : decode cL_isDone 171 = .ok (.invokestatic 18, 3) := by decide +kernel
theorem dL_isDone_174 : decode cL_isDone 174 = .ok (.iadd, 1) := by decide +kernel
theorem dL_isDone_175 : decode cL_isDone 175 = .ok (.bipush 30, 2) := by decide +kernel
theorem dL_isDone_177 : decode cL_isDone 177 = .ok (.iload_n 1, 1) := by decide +kernel
theorem dL_isDone_178 : decode cL_isDone 178 = .ok (.iconst 5, 1) := by decide +kernel
theorem dL_isDone_179 : decode cL_isDone 179 = .ok (.ishr, 1) := by decide +kernel
theorem dL_isDone_180 : decode cL_isDone 180 = .ok (.iload_n 1, 1) := by decide +kernel
theorem dL_isDone_181 : decode cL_isDone 181 = .ok (.iconst 4, 1) := by decide +kernel
theorem dL_isDone_182 : decode cL_isDone 182 = .ok (.ishr, 1) := by decide +kernel
theorem dL_isDone_183 : decode cL_isDone 183 = .ok (.iconst 4, 1) := by decide +kernel
theorem dL_isDone_184 : decode cL_isDone 184 = .ok (.invokestatic 18, 3) := by decide +kernel
theorem dL_isDone_187 : decode cL_isDone 187 = .ok (.ifCond .ne 9, 3) := by decide +kernel
theorem dL_isDone_190 : decode cL_isDone 190 = .ok (.sipush 3571, 3) := by decide +kernel
theorem dL_isDone_193 : decode cL_isDone 193 = .ok (.goto 6, 3) := by decide +kernel
theorem dL_isDone_196 : decode cL_isDone 196 = .ok (.sipush 200, 3) := by decide +kernel
theorem dL_isDone_199 : decode cL_isDone 199 = .ok (.invokestatic 18, 3) := by decide +kernel
theorem dL_isDone_202 : decode cL_isDone 202 = .ok (.iadd, 1) := by decide +kernel
theorem dL_isDone_203 : decode cL_isDone 203 = .ok (.iload_n 1, 1) := by decide +kernel
theorem dL_isDone_204 : decode cL_isDone 204 = .ok (.bipush 11, 2) := by decide +kernel
theorem dL_isDone_206 : decode cL_isDone 206 = .ok (.ishr, 1) := by decide +kernel
theorem dL_isDone_207 : decode cL_isDone 207 = .ok (.iconst 5, 1) := by decide +kernel
theorem dL_isDone_208 : decode cL_isDone 208 = .ok (.invokestatic 18, 3) := by decide +kernel
theorem dL_isDone_211 : decode cL_isDone 211 = .ok (.ifCond .ne 7, 3) := by decide +kernel
theorem dL_isDone_214 : decode cL_isDone 214 = .ok (.iconst 1, 1) := by decide +kernel
theorem dL_isDone_215 : decode cL_isDone 215 = .ok (.goto 4, 3) := by decide +kernel
theorem dL_isDone_218 : decode cL_isDone 218 = .ok (.iconst 0, 1) := by decide +kernel
theorem dL_isDone_219 : decode cL_isDone 219 = .ok (.invokevirtual 55, 3) := by decide +kernel
theorem dL_isDone_222 : decode cL_isDone 222 = .ok (.pop, 1) := by decide +kernel
theorem dL_isDone_223 : decode cL_isDone 223 = .ok (.goto 314, 3) := by decide +kernel
theorem dL_isDone_226 : decode cL_isDone 226 = .ok (.aload_n 0, 1) := by decide +kernel
theorem dL_isDone_227 : decode cL_isDone 227 = .ok (.iload_n 3, 1) := by decide +kernel
theorem dL_isDone_228 : decode cL_isDone 228 = .ok (.iconst 1, 1) := by decide +kernel
theorem dL_isDone_229 : decode cL_isDone 229 = .ok (.iload_n 1, 1) := by decide +kernel
theorem dL_isDone_230 : decode cL_isDone 230 = .ok (.iconst 3, 1) := by decide +kernel
theorem dL_isDone_231 : decode cL_isDone 231 = .ok (.ishr, 1) := by decide +kernel
theorem dL_isDone_232 : decode cL_isDone 232 = .ok (.sipush 2000, 3) := by decide +kernel
theorem dL_isDone_235 : decode cL_isDone 235 = .ok (.invokestatic 18, 3) := by decide +kernel
theorem dL_isDone_238 : decode cL_isDone 238 = .ok (.iadd, 1) := by decide +kernel
theorem dL_isDone_239 : decode cL_isDone 239 = .ok (.invokevirtual 36, 3) := by decide +kernel
theorem dL_isDone_242 : decode cL_isDone 242 = .ok (.pop, 1) := by decide +kernel
theorem dL_isDone_243 : decode cL_isDone 243 = .ok (.goto 294, 3) := by decide +kernel
theorem dL_isDone_246 : decode cL_isDone 246 = .ok (.aload_n 0, 1) := by decide +kernel
theorem dL_isDone_247 : decode cL_isDone 247 = .ok (.iload_n 3, 1) := by decide +kernel
theorem dL_isDone_248 : decode cL_isDone 248 = .ok (.iconst 1, 1) := by decide +kernel
theorem dL_isDone_249 : decode cL_isDone 249 = .ok (.iload_n 1, 1) := by decide +kernel
theorem dL_isDone_250 : decode cL_isDone 250 = .ok (.iconst 3, 1) := by decide +kernel
theorem dL_isDone_251 : decode cL_isDone 251 = .ok (.ishr, 1) := by decide +kernel
theorem dL_isDone_252 : decode cL_isDone 252 = .ok (.sipush 2000, 3) := by decide +kernel
theorem dL_isDone_255 : decode cL_isDone 255 = .ok (.invokestatic 18, 3) := by decide +kernel
theorem dL_isDone_258 : decode cL_isDone 258 = .ok (.iadd, 1) := by decide +kernel
theorem dL_isDone_259 : decode cL_isDone 259 = .ok (.invokevirtual 59, 3) := by decide +kernel
theorem dL_isDone_262 : decode cL_isDone 262 = .ok (.pop, 1) := by decide +kernel
theorem dL_isDone_263 : decode cL_isDone 263 = .ok (.goto 274, 3) := by decide +kernel
theorem dL_isDone_266 : decode cL_isDone 266 = .ok (.aload_n 0, 1) := by decide +kernel
theorem dL_isDone_267 : decode cL_isDone 267 = .ok (.iload 6, 2) := by decide +kernel
theorem dL_isDone_269 : decode cL_isDone 269 = .ok (.invokevirtual 62, 3) := by decide +kernel
theorem dL_isDone_272 : decode cL_isDone 272 = .ok (.pop, 1) := by decide +kernel
theorem dL_isDone_273 : decode cL_isDone 273 = .ok (.goto 264, 3) := by decide +kernel
theorem dL_isDone_276 : decode cL_isDone 276 = .ok (.aload_n 0, 1) := by decide +kernel
theorem dL_isDone_277 : decode cL_isDone 277 = .ok (.iload 6, 2) := by decide +kernel
theorem dL_isDone_279 : decode cL_isDone 279 = .ok (.invokevirtual 65, 3) := by decide +kernel
theorem dL_isDone_282 : decode cL_isDone 282 = .ok (.pop, 1) := by decide +kernel
theorem dL_isDone_283 : decode cL_isDone 283 = .ok (.goto 254, 3) := by decide +kernel
theorem dL_isDone_286 : decode cL_isDone 286 = .ok (.aload_n 0, 1) := by decide +kernel
theorem dL_isDone_287 : decode cL_isDone 287 = .ok (.iload 6, 2) := by decide +kernel
theorem dL_isDone_289 : decode cL_isDone 289 = .ok (.iload_n 1, 1) := by decide +kernel
theorem dL_isDone_290 : decode cL_isDone 290 = .ok (.iconst 4, 1) := by decide +kernel
theorem dL_isDone_291 : decode cL_isDone 291 = .ok (.ishr, 1) := by decide +kernel
theorem dL_isDone_292 : decode cL_isDone 292 = .ok (.iconst 2, 1) := by decide +kernel
theorem dL_isDone_293 : decode cL_isDone 293 = .ok (.invokestatic 18, 3) := by decide +kernel
theorem dL_isDone_296 : decode cL_isDone 296 = .ok (.ifCond .ne 7, 3) := by decide +kernel
theorem dL_isDone_299 : decode cL_isDone 299 = .ok (.iconst 1, 1) := by decide +kernel
theorem dL_isDone_300 : decode cL_isDone 300 = .ok (.goto 4, 3) := by decide +kernel
theorem dL_isDone_303 : decode cL_isDone 303 = .ok (.iconst 0, 1) := by decide +kernel
theorem dL_isDone_304 : decode cL_isDone 304 = .ok (.invokevirtual 68, 3) := by decide +kernel
theorem dL_isDone_307 : decode cL_isDone 307 = .ok (.pop, 1) := by decide +kernel
theorem dL_isDone_308 : decode cL_isDone 308 = .ok (.goto 229, 3) := by decide +kernel
theorem dL_isDone_311 : decode cL_isDone 311 = .ok (.aload_n 0, 1) := by decide +kernel
theorem dL_isDone_312 : decode cL_isDone 312 = .ok (.iload 6, 2) := by decide +kernel
theorem dL_isDone_314 : decode cL_isDone 314 = .ok (.invokevirtual 72, 3) := by decide +kernel
theorem dL_isDone_317 : decode cL_isDone 317 = .ok (.pop, 1) := by decide +kernel
theorem dL_isDone_318 : decode cL_isDone 318 = .ok (.goto 219, 3) := by decide +kernel
theorem dL_isDone_321 : decode cL_isDone 321 = .ok (.aload_n 0, 1) := by decide +kernel
theorem dL_isDone_322 : decode cL_isDone 322 = .ok (.iload 6, 2) := by decide +kernel
theorem dL_isDone_324 : decode cL_isDone 324 = .ok (.iconst 1, 1) := by decide +kernel
theorem dL_isDone_325 : decode cL_isDone 325 = .ok (.iload_n 1, 1) := by decide +kernel
theorem dL_isDone_326 : decode cL_isDone 326 = .ok (.iconst 4, 1) := by decide +kernel
theorem dL_isDone_327 : decode cL_isDone 327 = .ok (.ishr, 1) := by decide +kernel
theorem dL_isDone_328 : decode cL_isDone 328 = .ok (.sipush 900, 3) := by decide +kernel
theorem dL_isDone_331 : decode cL_isDone 331 = .ok (.invokestatic 18, 3) := by decide +kernel
theorem dL_isDone_334 : decode cL_isDone 334 = .ok (.iadd, 1) := by decide +kernel
theorem dL_isDone_335 : decode cL_isDone 335 = .ok (.invokevirtual 75, 3) := by decide +kernel
theorem dL_isDone_338 : decode cL_isDone 338 = .ok (.pop, 1) := by decide +kernel
theorem dL_isDone_339 : decode cL_isDone 339 = .ok (.goto 198, 3) := by decide +kernel
theorem dL_isDone_342 : decode cL_isDone 342 = .ok (.aload_n 0, 1) := by decide +kernel
theorem dL_isDone_343 : decode cL_isDone 343 = .ok (.iload_n 2, 1) := by decide +kernel
theorem dL_isDone_344 : decode cL_isDone 344 = .ok (.bipush 10, 2) := by decide +kernel
theorem dL_isDone_346 : decode cL_isDone 346 = .ok (.iload_n 1, 1) := by decide +kernel
theorem dL_isDone_347 : decode cL_isDone 347 = .ok (.iconst 4, 1) := by decide +kernel
theorem dL_isDone_348 : decode cL_isDone 348 = .ok (.ishr, 1) := by decide +kernel
theorem dL_isDone_349 : decode cL_isDone 349 = .ok (.bipush 91, 2) := by decide +kernel
theorem dL_isDone_351 : decode cL_isDone 351 = .ok (.invokestatic 18, 3) := by decide +kernel
theorem dL_isDone_354 : decode cL_isDone 354 = .ok (.iadd, 1) := by decide +kernel
theorem dL_isDone_355 : decode cL_isDone 355 = .ok (.iconst 1, 1) := by decide +kernel
theorem dL_isDone_356 : decode cL_isDone 356 = .ok (.iload_n 1, 1) := by decide +kernel
theorem dL_isDone_357 : decode cL_isDone 357 = .ok (.iconst 3, 1) := by decide +kernel
theorem dL_isDone_358 : decode cL_isDone 358 = .ok (.ishr, 1) := by decide +kernel
theorem dL_isDone_359 : decode cL_isDone 359 = .ok (.bipush 10, 2) := by decide +kernel
theorem dL_isDone_361 : decode cL_isDone 361 = .ok (.invokestatic 18, 3) := by decide +kernel
theorem dL_isDone_364 : decode cL_isDone 364 = .ok (.iadd, 1) := by decide +kernel
theorem dL_isDone_365 : decode cL_isDone 365 = .ok (.invokevirtual 78, 3) := by decide +kernel
theorem dL_isDone_368 : decode cL_isDone 368 = .ok (.pop, 1) := by decide +kernel
theorem dL_isDone_369 : decode cL_isDone 369 = .ok (.goto 168, 3) := by decide +kernel
theorem dL_isDone_372 : decode cL_isDone 372 = .ok (.aload_n 0, 1) := by decide +kernel
theorem dL_isDone_373 : decode cL_isDone 373 = .ok (.iload 6, 2) := by decide +kernel
theorem dL_isDone_375 : decode cL_isDone 375 = .ok (.invokevirtual 81, 3) := by decide +kernel
theorem dL_isDone_378 : decode cL_isDone 378 = .ok (.pop, 1) := by decide +kernel
theorem dL_isDone_379 : decode cL_isDone 379 = .ok (.goto 158, 3) := by decide +kernel
theorem dL_isDone_382 : decode cL_isDone 382 = .ok (.aload_n 0, 1) := by decide +kernel
theorem dL_isDone_383 : decode cL_isDone 383 = .ok (.iload_n 2, 1) := by decide +kernel
theorem dL_isDone_384 : decode cL_isDone 384 = .ok (.iload_n 1, 1) := by decide +kernel
theorem dL_isDone_385 : decode cL_isDone 385 = .ok (.iconst 4, 1) := by decide +kernel
theorem dL_isDone_386 : decode cL_isDone 386 = .ok (.ishr, 1) := by decide +kernel
theorem dL_isDone_387 : decode cL_isDone 387 = .ok (.iconst 3, 1) := by decide +kernel
theorem dL_isDone_388 : decode cL_isDone 388 = .ok (.invokestatic 18, 3) := by decide +kernel
theorem dL_isDone_391 : decode cL_isDone 391 = .ok (.ifCond .ne 7, 3) := by decide +kernel
theorem dL_isDone_394 : decode cL_isDone 394 = .ok (.iconst 1, 1) := by decide +kernel
theorem dL_isDone_395 : decode cL_isDone 395 = .ok (.goto 4, 3) := by decide +kernel
theorem dL_isDone_398 : decode cL_isDone 398 = .ok (.iconst 0, 1) := by decide +kernel
theorem dL_isDone_399 : decode cL_isDone 399 = .ok (.invokevirtual 85, 3) := by decide +kernel
theorem dL_isDone_402 : decode cL_isDone 402 = .ok (.pop, 1) := by decide +kernel
theorem dL_isDone_403 : decode cL_isDone 403 = .ok (.goto 134, 3) := by decide +kernel
theorem dL_isDone_406 : decode cL_isDone 406 = .ok (.aload_n 0, 1) := by decide +kernel
theorem dL_isDone_407 : decode cL_isDone 407 = .ok (.iload_n 2, 1) := by decide +kernel
theorem dL_isDone_408 : decode cL_isDone 408 = .ok (.iload_n 1, 1) := by decide +kernel
theorem dL_isDone_409 : decode cL_isDone 409 = .ok (.iconst 4, 1) := by decide +kernel
theorem dL_isDone_410 : decode cL_isDone 410 = .ok (.ishr, 1) := by decide +kernel
theorem dL_isDone_411 : decode cL_isDone 411 = .ok (.iconst 4, 1) := by decide +kernel
theorem dL_isDone_412 : decode cL_isDone 412 = .ok (.invokestatic 18, 3) := by decide +kernel
theorem dL_isDone_415 : decode cL_isDone 415 = .ok (.ifCond .ne 7, 3) := by decide +kernel
theorem dL_isDone_418 : decode cL_isDone 418 = .ok (.iconst 1, 1) := by decide +kernel
theorem dL_isDone_419 : decode cL_isDone 419 = .ok (.goto 4, 3) := by decide +kernel
theorem dL_isDone_422 : decode cL_isDone 422 = .ok (.iconst 0, 1) := by decide +kernel
theorem dL_isDone_423 : decode cL_isDone 423 = .ok (.invokevirtual 88, 3) := by decide +kernel
theorem dL_isDone_426 : decode cL_isDone 426 = .ok (.pop, 1) := by decide +kernel
theorem dL_isDone_427 : decode cL_isDone 427 = .ok (.goto 110, 3) := by decide +kernel
theorem dL_isDone_430 : decode cL_isDone 430 = .ok (.iload_n 1, 1) := by decide +kernel
theorem dL_isDone_431 : decode cL_isDone 431 = .ok (.iconst 4, 1) := by decide +kernel
theorem dL_isDone_432 : decode cL_isDone 432 = .ok (.ishr, 1) := by decide +kernel
theorem dL_isDone_433 : decode cL_isDone 433 = .ok (.iconst 3, 1) := by decide +kernel
theorem dL_isDone_434 : decode cL_isDone 434 = .ok (.invokestatic 18, 3) := by decide +kernel
theorem dL_isDone_437 : decode cL_isDone 437 = .ok (.ifCond .ne 100, 3) := by decide +kernel
theorem dL_isDone_440 : decode cL_isDone 440 = .ok (.aload_n 0, 1) := by decide +kernel
theorem dL_isDone_441 : decode cL_isDone 441 = .ok (.iload_n 3, 1) := by decide +kernel
theorem dL_isDone_442 : decode cL_isDone 442 = .ok (.invokevirtual 91, 3) := by decide +kernel
theorem dL_isDone_445 : decode cL_isDone 445 = .ok (.pop, 1) := by decide +kernel
theorem dL_isDone_446 : decode cL_isDone 446 = .ok (.goto 91, 3) := by decide +kernel
theorem dL_isDone_449 : decode cL_isDone 449 = .ok (.aload_n 0, 1) := by decide +kernel
theorem dL_isDone_450 : decode cL_isDone 450 = .ok (.iload_n 2, 1) := by decide +kernel
theorem dL_isDone_451 : decode cL_isDone 451 = .ok (.iconst 1, 1) := by decide +kernel
theorem dL_isDone_452 : decode cL_isDone 452 = .ok (.iload_n 1, 1) := by decide +kernel
theorem dL_isDone_453 : decode cL_isDone 453 = .ok (.iconst 4, 1) := by decide +kernel
theorem dL_isDone_454 : decode cL_isDone 454 = .ok (.ishr, 1) := by decide +kernel
theorem dL_isDone_455 : decode cL_isDone 455 = .ok (.sipush 150, 3) := by decide +kernel
theorem dL_isDone_458 : decode cL_isDone 458 = .ok (.invokestatic 18, 3) := by decide +kernel
theorem dL_isDone_461 : decode cL_isDone 461 = .ok (.iadd, 1) := by decide +kernel
theorem dL_isDone_462 : decode cL_isDone 462 = .ok (.invokevirtual 94, 3) := by decide +kernel
theorem dL_isDone_465 : decode cL_isDone 465 = .ok (.pop, 1) := by decide +kernel
theorem dL_isDone_466 : decode cL_isDone 466 = .ok (.goto 71, 3) := by decide +kernel
theorem dL_isDone_469 : decode cL_isDone 469 = .ok (.aload_n 0, 1) := by decide +kernel
theorem dL_isDone_470 : decode cL_isDone 470 = .ok (.iload_n 1, 1) := by decide +kernel
theorem dL_isDone_471 : decode cL_isDone 471 = .ok (.iconst 4, 1) := by decide +kernel
theorem dL_isDone_472 : decode cL_isDone 472 = .ok (.ishr, 1) := by decide +kernel
theorem dL_isDone_473 : decode cL_isDone 473 = .ok (.iconst 3, 1) := by decide +kernel
theorem dL_isDone_474 : decode cL_isDone 474 = .ok (.invokestatic 18, 3) := by decide +kernel
theorem dL_isDone_477 : decode cL_isDone 477 = .ok (.iload_n 3, 1) := by decide +kernel
theorem dL_isDone_478 : decode cL_isDone 478 = .ok (.iload_n 1, 1) := by decide +kernel
theorem dL_isDone_479 : decode cL_isDone 479 = .ok (.iconst 5, 1) := by decide +kernel
theorem dL_isDone_480 : decode cL_isDone 480 = .ok (.ishr, 1) := by decide +kernel
theorem dL_isDone_481 : decode cL_isDone 481 = .ok (.iconst 2, 1) := by decide +kernel
theorem dL_isDone_482 : decode cL_isDone 482 = .ok (.invokestatic 18, 3) := by decide +kernel
theorem dL_isDone_485 : decode cL_isDone 485 = .ok (.ifCond .ne 7, 3) := by decide +kernel
theorem dL_isDone_488 : decode cL_isDone 488 = .ok (.iconst 1, 1) := by decide +kernel
theorem dL_isDone_489 : decode cL_isDone 489 = .ok (.goto 4, 3) := by decide +kernel
theorem dL_isDone_492 : decode cL_isDone 492 = .ok (.iconst 0, 1) := by decide +kernel
theorem dL_isDone_493 : decode cL_isDone 493 = .ok (.invokevirtual 97, 3) := by decide +kernel
theorem dL_isDone_496 : decode cL_isDone 496 = .ok (.pop, 1) := by decide +kernel
theorem dL_isDone_497 : decode cL_isDone 497 = .ok (.goto 40, 3) := by decide +kernel
theorem dL_isDone_500 : decode cL_isDone 500 = .ok (.aload_n 0, 1) := by decide +kernel
theorem dL_isDone_501 : decode cL_isDone 501 = .ok (.iload 4, 2) := by decide +kernel
theorem dL_isDone_503 : decode cL_isDone 503 = .ok (.iload_n 3, 1) := by decide +kernel
theorem dL_isDone_504 : decode cL_isDone 504 = .ok (.iload_n 1, 1) := by decide +kernel
theorem dL_isDone_505 : decode cL_isDone 505 = .ok (.iconst 3, 1) := by decide +kernel
theorem dL_isDone_506 : decode cL_isDone 506 = .ok (.ishr, 1) := by decide +kernel
theorem dL_isDone_507 : decode cL_isDone 507 = .ok (.sipush 9000, 3) := by decide +kernel
theorem dL_isDone_510 : decode cL_isDone 510 = .ok (.invokestatic 18, 3) := by decide +kernel
theorem dL_isDone_513 : decode cL_isDone 513 = .ok (.invokevirtual 43, 3) := by decide +kernel
theorem dL_isDone_516 : decode cL_isDone 516 = .ok (.pop, 1) := by decide +kernel
theorem dL_isDone_517 : decode cL_isDone 517 = .ok (.goto 20, 3) := by decide +kernel
theorem dL_isDone_520 : decode cL_isDone 520 = .ok (.aload_n 0, 1) := by decide +kernel
theorem dL_isDone_521 : decode cL_isDone 521 = .ok (.iload 4, 2) := by decide +kernel
theorem dL_isDone_523 : decode cL_isDone 523 = .ok (.iload_n 3, 1) := by decide +kernel
theorem dL_isDone_524 : decode cL_isDone 524 = .ok (.iload_n 1, 1) := by decide +kernel
theorem dL_isDone_525 : decode cL_isDone 525 = .ok (.iconst 3, 1) := by decide +kernel
theorem dL_isDone_526 : decode cL_isDone 526 = .ok (.ishr, 1) := by decide +kernel
theorem dL_isDone_527 : decode cL_isDone 527 = .ok (.sipush 4000, 3) := by decide +kernel
theorem dL_isDone_530 : decode cL_isDone 530 = .ok (.invokestatic 18, 3) := by decide +kernel
theorem dL_isDone_533 : decode cL_isDone 533 = .ok (.invokevirtual 101, 3) := by decide +kernel
theorem dL_isDone_536 : decode cL_isDone 536 = .ok (.pop, 1) := by decide +kernel
theorem dL_isDone_537 : decode cL_isDone 537 = .ok (.iconst 1, 1) := by decide +kernel
theorem dL_isDone_538 : decode cL_isDone 538 = .ok (.ireturn, 1) := by decide +kernel
theorem dL_isDone_539 : decode cL_isDone 539 = .ok (.astore 7, 2) := by decide +kernel
theorem dL_isDone_541 : decode cL_isDone 541 = .ok (.iconst 0, 1) := by decide +kernel
theorem dL_isDone_542 : decode cL_isDone 542 = .ok (.ireturn, 1) := by decide +kernel
theorem dL_isDone_543 : decode cL_isDone 543 = .ok (.astore 7, 2) := by decide +kernel
theorem dL_isDone_545 : decode cL_isDone 545 = .ok (.iconst 0, 1) := by decide +kernel
theorem dL_isDone_546 : decode cL_isDone 546 = .ok (.ireturn, 1) := by decide +kernel
theorem dL_law_0 : decode cL_law 0 = .ok (.aload_n 0, 1) := by decide +kernel
theorem dL_law_1 : decode cL_law 1 = .ok (.invokestatic 108, 3) := by decide +kernel
theorem dL_law_4 : decode cL_law 4 = .ok (.astore_n 1, 1) := by decide +kernel
theorem dL_law_5 : decode cL_law 5 = .ok (.iconst 0, 1) := by decide +kernel
theorem dL_law_6 : decode cL_law 6 = .ok (.istore_n 2, 1) := by decide +kernel
theorem dL_law_7 : decode cL_law 7 = .ok (.bipush 48, 2) := by decide +kernel
theorem dL_law_9 : decode cL_law 9 = .ok (.newarray .int, 2) := by decide +kernel
theorem dL_law_11 : decode cL_law 11 = .ok (.astore_n 3, 1) := by decide +kernel
theorem dL_law_12 : decode cL_law 12 = .ok (.bipush 48, 2) := by decide +kernel
theorem dL_law_14 : decode cL_law 14 = .ok (.newarray .int, 2) := by decide +kernel
theorem dL_law_16 : decode cL_law 16 = .ok (.astore 4, 2) := by decide +kernel
theorem dL_law_18 : decode cL_law 18 = .ok (.iconst 3, 1) := by decide +kernel
theorem dL_law_19 : decode cL_law 19 = .ok (.newarray .boolean, 2) := by decide +kernel
theorem dL_law_21 : decode cL_law 21 = .ok (.astore 5, 2) := by decide +kernel
theorem dL_law_23 : decode cL_law 23 = .ok (.iconst 0, 1) := by decide +kernel
theorem dL_law_24 : decode cL_law 24 = .ok (.istore 6, 2) := by decide +kernel
theorem dL_law_26 : decode cL_law 26 = .ok (.iload 6, 2) := by decide +kernel
theorem dL_law_28 : decode cL_law 28 = .ok (.bipush 30, 2) := by decide +kernel
theorem dL_law_30 : decode cL_law 30 = .ok (.if_icmp .ge 334, 3) := by decide +kernel
theorem dL_law_33 : decode cL_law 33 = .ok (.aload_n 0, 1) := by decide +kernel
theorem dL_law_34 : decode cL_law 34 = .ok (.bipush 11, 2) := by decide +kernel
theorem dL_law_36 : decode cL_law 36 = .ok (.iload 6, 2) := by decide +kernel
theorem dL_law_38 : decode cL_law 38 = .ok (.bipush 24, 2) := by decide +kernel
theorem dL_law_40 : decode cL_law 40 = .ok (.irem, 1) := by decide +kernel
theorem dL_law_41 : decode cL_law 41 = .ok (.iadd, 1) := by decide +kernel
theorem dL_law_42 : decode cL_law 42 = .ok (.invokestatic 12, 3) := by decide +kernel
theorem dL_law_45 : decode cL_law 45 = .ok (.iload 6, 2) := by decide +kernel
theorem dL_law_47 : decode cL_law 47 = .ok (.bipush 24, 2) := by decide +kernel
theorem dL_law_49 : decode cL_law 49 = .ok (.idiv, 1) := by decide +kernel
theorem dL_law_50 : decode cL_law 50 = .ok (.iconst 4, 1) := by decide +kernel
theorem dL_law_51 : decode cL_law 51 = .ok (.imul, 1) := by decide +kernel
theorem dL_law_52 : decode cL_law 52 = .ok (.ishr, 1) := by decide +kernel
theorem dL_law_53 : decode cL_law 53 = .ok (.istore 7, 2) := by decide +kernel
theorem dL_law_55 : decode cL_law 55 = .ok (.aload_n 1, 1) := by decide +kernel
theorem dL_law_56 : decode cL_law 56 = .ok (.bipush 6, 2) := by decide +kernel
theorem dL_law_58 : decode cL_law 58 = .ok (.invokevirtual 47, 3) := by decide +kernel
theorem dL_law_61 : decode cL_law 61 = .ok (.istore 8, 2) := by decide +kernel
theorem dL_law_63 : decode cL_law 63 = .ok (.aload_n 1, 1) := by decide +kernel
theorem dL_law_64 : decode cL_law 64 = .ok (.bipush 7, 2) := by decide +kernel
theorem dL_law_66 : decode cL_law 66 = .ok (.invokevirtual 47, 3) := by decide +kernel
theorem dL_law_69 : decode cL_law 69 = .ok (.istore 9, 2) := by decide +kernel
theorem dL_law_71 : decode cL_law 71 = .ok (.aload_n 1, 1) := by decide +kernel
theorem dL_law_72 : decode cL_law 72 = .ok (.bipush 10, 2) := by decide +kernel
theorem dL_law_74 : decode cL_law 74 = .ok (.invokevirtual 47, 3) := by decide +kernel
theorem dL_law_77 : decode cL_law 77 = .ok (.istore 10, 2) := by decide +kernel
theorem dL_law_79 : decode cL_law 79 = .ok (.aload_n 1, 1) := by decide +kernel
theorem dL_law_80 : decode cL_law 80 = .ok (.iload 7, 2) := by decide +kernel
theorem dL_law_82 : decode cL_law 82 = .ok (.invokestatic 112, 3) := by decide +kernel
theorem dL_law_85 : decode cL_law 85 = .ok (.ifCond .ne 38, 3) := by decide +kernel
theorem dL_law_88 : decode cL_law 88 = .ok (.aload_n 1, 1) := by decide +kernel
theorem dL_law_89 : decode cL_law 89 = .ok (.bipush 7, 2) := by decide +kernel
theorem dL_law_91 : decode cL_law 91 = .ok (.invokevirtual 47, 3) := by decide +kernel
theorem dL_law_94 : decode cL_law 94 = .ok (.iload 9, 2) := by decide +kernel
theorem dL_law_96 : decode cL_law 96 = .ok (.if_icmp .ne 25, 3) := by decide +kernel
theorem dL_law_99 : decode cL_law 99 = .ok (.aload_n 1, 1) := by decide +kernel
theorem dL_law_100 : decode cL_law 100 = .ok (.bipush 10, 2) := by decide +kernel
theorem dL_law_102 : decode cL_law 102 = .ok (.invokevirtual 47, 3) := by decide +kernel
theorem dL_law_105 : decode cL_law 105 = .ok (.iload 10, 2) := by decide +kernel
theorem dL_law_107 : decode cL_law 107 = .ok (.if_icmp .ne 14, 3) := by decide +kernel
theorem dL_law_110 : decode cL_law 110 = .ok (.aload_n 1, 1) := by decide +kernel
end PD6
