section PD3
theorem dX8_probable_20 : decode cX8_probable 20 = .ok (.getfield 10, 3) := by decide +kernel
theorem dX8_probable_23 : decode cX8_probable 23 = .ok (.invokevirtual 89, 3) := by decide +kernel
theorem dX8_probable_26 : decode cX8_probable 26 = .ok (.if_icmp .ge 33, 3) := by decide +kernel
theorem dX8_probable_29 : decode cX8_probable 29 = .ok (.iload_n 3, 1) := by decide +kernel
theorem dX8_probable_30 : decode cX8_probable 30 = .ok (.aload_n 2, 1) := by decide +kernel
theorem dX8_probable_31 : decode cX8_probable 31 = .ok (.arraylength, 1) := by decide +kernel
theorem dX8_probable_32 : decode cX8_probable 32 = .ok (.if_icmp .ge 27, 3) := by decide +kernel
theorem dX8_probable_35 : decode cX8_probable 35 = .ok (.aload_n 2, 1) := by decide +kernel
theorem dX8_probable_36 : decode cX8_probable 36 = .ok (.iload_n 3, 1) := by decide +kernel
theorem dX8_probable_37 : decode cX8_probable 37 = .ok (.aload_n 0, 1) := by decide +kernel
theorem dX8_probable_38 : decode cX8_probable 38 = .ok (.aload_n 0, 1) := by decide +kernel
theorem dX8_probable_39 : decode cX8_probable 39 = .ok (.getfield 10, 3) := by decide +kernel
theorem dX8_probable_42 : decode cX8_probable 42 = .ok (.iload_n 3, 1) := by decide +kernel
theorem dX8_probable_43 : decode cX8_probable 43 = .ok (.invokevirtual 306, 3) := by decide +kernel
theorem dX8_probable_46 : decode cX8_probable 46 = .ok (.checkcast 94, 3) := by decide +kernel
theorem dX8_probable_49 : decode cX8_probable 49 = .ok (.invokevirtual 385, 3) := by decide +kernel
theorem dX8_probable_52 : decode cX8_probable 52 = .ok (.iastore, 1) := by decide +kernel
theorem dX8_probable_53 : decode cX8_probable 53 = .ok (.iinc 3 1, 3) := by decide +kernel
theorem dX8_probable_56 : decode cX8_probable 56 = .ok (.goto (-38), 3) := by decide +kernel
theorem dX8_probable_59 : decode cX8_probable 59 = .ok (.dconst 0, 1) := by decide +kernel
theorem dX8_probable_60 : decode cX8_probable 60 = .ok (.dstore_n 3, 1) := by decide +kernel
theorem dX8_probable_61 : decode cX8_probable 61 = .ok (.iconst 0, 1) := by decide +kernel
theorem dX8_probable_62 : decode cX8_probable 62 = .ok (.istore 5, 2) := by decide +kernel
theorem dX8_probable_64 : decode cX8_probable 64 = .ok (.iload 5, 2) := by decide +kernel
theorem dX8_probable_66 : decode cX8_probable 66 = .ok (.iconst 1, 1) := by decide +kernel
theorem dX8_probable_67 : decode cX8_probable 67 = .ok (.aload_n 0, 1) := by decide +kernel
theorem dX8_probable_68 : decode cX8_probable 68 = .ok (.getfield 10, 3) := by decide +kernel
theorem dX8_probable_71 : decode cX8_probable 71 = .ok (.invokevirtual 89, 3) := by decide +kernel
theorem dX8_probable_74 : decode cX8_probable 74 = .ok (.ishl, 1) := by decide +kernel
theorem dX8_probable_75 : decode cX8_probable 75 = .ok (.if_icmp .ge 28, 3) := by decide +kernel
theorem dX8_probable_78 : decode cX8_probable 78 = .ok (.aload_n 2, 1) := by decide +kernel
theorem dX8_probable_79 : decode cX8_probable 79 = .ok (.iload 5, 2) := by decide +kernel
theorem dX8_probable_81 : decode cX8_probable 81 = .ok (.invokestatic 389, 3) := by decide +kernel
theorem dX8_probable_84 : decode cX8_probable 84 = .ok (.iload_n 1, 1) := by decide +kernel
theorem dX8_probable_85 : decode cX8_probable 85 = .ok (.if_icmp .lt 12, 3) := by decide +kernel
theorem dX8_probable_88 : decode cX8_probable 88 = .ok (.dload_n 3, 1) := by decide +kernel
theorem dX8_probable_89 : decode cX8_probable 89 = .ok (.aload_n 0, 1) := by decide +kernel
theorem dX8_probable_90 : decode cX8_probable 90 = .ok (.iload 5, 2) := by decide +kernel
theorem dX8_probable_92 : decode cX8_probable 92 = .ok (.invokevirtual 393, 3) := by decide +kernel
theorem dX8_probable_95 : decode cX8_probable 95 = .ok (.dadd, 1) := by decide +kernel
theorem dX8_probable_96 : decode cX8_probable 96 = .ok (.dstore_n 3, 1) := by decide +kernel
theorem dX8_probable_97 : decode cX8_probable 97 = .ok (.iinc 5 1, 3) := by decide +kernel
theorem dX8_probable_100 : decode cX8_probable 100 = .ok (.goto (-36), 3) := by decide +kernel
theorem dX8_probable_103 : decode cX8_probable 103 = .ok (.dload_n 3, 1) := by decide +kernel
theorem dX8_probable_104 : decode cX8_probable 104 = .ok (.dreturn, 1) := by decide +kernel
theorem dX8_isSound_0 : decode cX8_isSound 0 = .ok (.aload_n 0, 1) := by decide +kernel
theorem dX8_isSound_1 : decode cX8_isSound 1 = .ok (.invokevirtual 397, 3) := by decide +kernel
theorem dX8_isSound_4 : decode cX8_isSound 4 = .ok (.ifCond .eq 17, 3) := by decide +kernel
theorem dX8_isSound_7 : decode cX8_isSound 7 = .ok (.aload_n 0, 1) := by decide +kernel
theorem dX8_isSound_8 : decode cX8_isSound 8 = .ok (.invokevirtual 400, 3) := by decide +kernel
theorem dX8_isSound_11 : decode cX8_isSound 11 = .ok (.aload_n 0, 1) := by decide +kernel
theorem dX8_isSound_12 : decode cX8_isSound 12 = .ok (.getfield 31, 3) := by decide +kernel
theorem dX8_isSound_15 : decode cX8_isSound 15 = .ok (.getfield 129, 3) := by decide +kernel
theorem dX8_isSound_18 : decode cX8_isSound 18 = .ok (.if_icmp .eq 5, 3) := by decide +kernel
theorem dX8_isSound_21 : decode cX8_isSound 21 = .ok (.iconst 0, 1) := by decide +kernel
theorem dX8_isSound_22 : decode cX8_isSound 22 = .ok (.ireturn, 1) := by decide +kernel
theorem dX8_isSound_23 : decode cX8_isSound 23 = .ok (.iconst 0, 1) := by decide +kernel
theorem dX8_isSound_24 : decode cX8_isSound 24 = .ok (.istore_n 1, 1) := by decide +kernel
theorem dX8_isSound_25 : decode cX8_isSound 25 = .ok (.iload_n 1, 1) := by decide +kernel
theorem dX8_isSound_26 : decode cX8_isSound 26 = .ok (.aload_n 0, 1) := by decide +kernel
theorem dX8_isSound_27 : decode cX8_isSound 27 = .ok (.getfield 25, 3) := by decide +kernel
theorem dX8_isSound_30 : decode cX8_isSound 30 = .ok (.invokevirtual 89, 3) := by decide +kernel
theorem dX8_isSound_33 : decode cX8_isSound 33 = .ok (.if_icmp .ge 28, 3) := by decide +kernel
theorem dX8_isSound_36 : decode cX8_isSound 36 = .ok (.aload_n 0, 1) := by decide +kernel
theorem dX8_isSound_37 : decode cX8_isSound 37 = .ok (.getfield 25, 3) := by decide +kernel
theorem dX8_isSound_40 : decode cX8_isSound 40 = .ok (.iload_n 1, 1) := by decide +kernel
theorem dX8_isSound_41 : decode cX8_isSound 41 = .ok (.invokevirtual 306, 3) := by decide +kernel
theorem dX8_isSound_44 : decode cX8_isSound 44 = .ok (.checkcast 201, 3) := by decide +kernel
theorem dX8_isSound_47 : decode cX8_isSound 47 = .ok (.invokevirtual 403, 3) := by decide +kernel
theorem dX8_isSound_50 : decode cX8_isSound 50 = .ok (.ifCond .ne 5, 3) := by decide +kernel
theorem dX8_isSound_53 : decode cX8_isSound 53 = .ok (.iconst 0, 1) := by decide +kernel
theorem dX8_isSound_54 : decode cX8_isSound 54 = .ok (.ireturn, 1) := by decide +kernel
theorem dX8_isSound_55 : decode cX8_isSound 55 = .ok (.iinc 1 1, 3) := by decide +kernel
theorem dX8_isSound_58 : decode cX8_isSound 58 = .ok (.goto (-33), 3) := by decide +kernel
theorem dX8_isSound_61 : decode cX8_isSound 61 = .ok (.iconst 1, 1) := by decide +kernel
theorem dX8_isSound_62 : decode cX8_isSound 62 = .ok (.ireturn, 1) := by decide +kernel
theorem dX8_digest_0 : decode cX8_digest 0 = .ok (.ldc2_w 406, 3) := by decide +kernel
theorem dX8_digest_3 : decode cX8_digest 3 = .ok (.lstore_n 1, 1) := by decide +kernel
theorem dX8_digest_4 : decode cX8_digest 4 = .ok (.iconst 0, 1) := by decide +kernel
theorem dX8_digest_5 : decode cX8_digest 5 = .ok (.istore_n 3, 1) := by decide +kernel
theorem dX8_digest_6 : decode cX8_digest 6 = .ok (.iload_n 3, 1) := by decide +kernel
theorem dX8_digest_7 : decode cX8_digest 7 = .ok (.bipush 20, 2) := by decide +kernel
theorem dX8_digest_9 : decode cX8_digest 9 = .ok (.if_icmp .ge 22, 3) := by decide +kernel
theorem dX8_digest_12 : decode cX8_digest 12 = .ok (.lload_n 1, 1) := by decide +kernel
theorem dX8_digest_13 : decode cX8_digest 13 = .ok (.ldc2_w 408, 3) := by decide +kernel
theorem dX8_digest_16 : decode cX8_digest 16 = .ok (.lmul, 1) := by decide +kernel
theorem dX8_digest_17 : decode cX8_digest 17 = .ok (.aload_n 0, 1) := by decide +kernel
theorem dX8_digest_18 : decode cX8_digest 18 = .ok (.iload_n 3, 1) := by decide +kernel
theorem dX8_digest_19 : decode cX8_digest 19 = .ok (.invokevirtual 363, 3) := by decide +kernel
theorem dX8_digest_22 : decode cX8_digest 22 = .ok (.i2l, 1) := by decide +kernel
theorem dX8_digest_23 : decode cX8_digest 23 = .ok (.ladd, 1) := by decide +kernel
theorem dX8_digest_24 : decode cX8_digest 24 = .ok (.lstore_n 1, 1) := by decide +kernel
theorem dX8_digest_25 : decode cX8_digest 25 = .ok (.iinc 3 1, 3) := by decide +kernel
theorem dX8_digest_28 : decode cX8_digest 28 = .ok (.goto (-22), 3) := by decide +kernel
theorem dX8_digest_31 : decode cX8_digest 31 = .ok (.aload_n 0, 1) := by decide +kernel
theorem dX8_digest_32 : decode cX8_digest 32 = .ok (.lload_n 1, 1) := by decide +kernel
theorem dX8_digest_33 : decode cX8_digest 33 = .ok (.invokevirtual 410, 3) := by decide +kernel
theorem dX8_digest_36 : decode cX8_digest 36 = .ok (.lstore_n 1, 1) := by decide +kernel
theorem dX8_digest_37 : decode cX8_digest 37 = .ok (.aload_n 0, 1) := by decide +kernel
theorem dX8_digest_38 : decode cX8_digest 38 = .ok (.lload_n 1, 1) := by decide +kernel
theorem dX8_digest_39 : decode cX8_digest 39 = .ok (.invokevirtual 414, 3) := by decide +kernel
theorem dX8_digest_42 : decode cX8_digest 42 = .ok (.lstore_n 1, 1) := by decide +kernel
theorem dX8_digest_43 : decode cX8_digest 43 = .ok (.aload_n 0, 1) := by decide +kernel
theorem dX8_digest_44 : decode cX8_digest 44 = .ok (.lload_n 1, 1) := by decide +kernel
theorem dX8_digest_45 : decode cX8_digest 45 = .ok (.invokevirtual 417, 3) := by decide +kernel
theorem dX8_digest_48 : decode cX8_digest 48 = .ok (.lstore_n 1, 1) := by decide +kernel
theorem dX8_digest_49 : decode cX8_digest 49 = .ok (.aload_n 0, 1) := by decide +kernel
theorem dX8_digest_50 : decode cX8_digest 50 = .ok (.lload_n 1, 1) := by decide +kernel
theorem dX8_digest_51 : decode cX8_digest 51 = .ok (.invokevirtual 420, 3) := by decide +kernel
theorem dX8_digest_54 : decode cX8_digest 54 = .ok (.lstore_n 1, 1) := by decide +kernel
theorem dX8_digest_55 : decode cX8_digest 55 = .ok (.aload_n 0, 1) := by decide +kernel
theorem dX8_digest_56 : decode cX8_digest 56 = .ok (.lload_n 1, 1) := by decide +kernel
theorem dX8_digest_57 : decode cX8_digest 57 = .ok (.invokevirtual 423, 3) := by decide +kernel
theorem dX8_digest_60 : decode cX8_digest 60 = .ok (.lstore_n 1, 1) := by decide +kernel
theorem dX8_digest_61 : decode cX8_digest 61 = .ok (.lload_n 1, 1) := by decide +kernel
theorem dX8_digest_62 : decode cX8_digest 62 = .ok (.ldc2_w 408, 3) := by decide +kernel
theorem dX8_digest_65 : decode cX8_digest 65 = .ok (.lmul, 1) := by decide +kernel
theorem dX8_digest_66 : decode cX8_digest 66 = .ok (.aload_n 0, 1) := by decide +kernel
theorem dX8_digest_67 : decode cX8_digest 67 = .ok (.invokevirtual 426, 3) := by decide +kernel
theorem dX8_digest_70 : decode cX8_digest 70 = .ok (.i2l, 1) := by decide +kernel
theorem dX8_digest_71 : decode cX8_digest 71 = .ok (.ladd, 1) := by decide +kernel
theorem dX8_digest_72 : decode cX8_digest 72 = .ok (.lstore_n 1, 1) := by decide +kernel
theorem dX8_digest_73 : decode cX8_digest 73 = .ok (.lload_n 1, 1) := by decide +kernel
theorem dX8_digest_74 : decode cX8_digest 74 = .ok (.ldc2_w 408, 3) := by decide +kernel
theorem dX8_digest_77 : decode cX8_digest 77 = .ok (.lmul, 1) := by decide +kernel
theorem dX8_digest_78 : decode cX8_digest 78 = .ok (.ldc2_w 429, 3) := by decide +kernel
theorem dX8_digest_81 : decode cX8_digest 81 = .ok (.aload_n 0, 1) := by decide +kernel
theorem dX8_digest_82 : decode cX8_digest 82 = .ok (.invokevirtual 431, 3) := by decide +kernel
theorem dX8_digest_85 : decode cX8_digest 85 = .ok (.dmul, 1) := by decide +kernel
theorem dX8_digest_86 : decode cX8_digest 86 = .ok (.d2l, 1) := by decide +kernel
theorem dX8_digest_87 : decode cX8_digest 87 = .ok (.ladd, 1) := by decide +kernel
theorem dX8_digest_88 : decode cX8_digest 88 = .ok (.lstore_n 1, 1) := by decide +kernel
theorem dX8_digest_89 : decode cX8_digest 89 = .ok (.lload_n 1, 1) := by decide +kernel
theorem dX8_digest_90 : decode cX8_digest 90 = .ok (.ldc2_w 408, 3) := by decide +kernel
theorem dX8_digest_93 : decode cX8_digest 93 = .ok (.lmul, 1) := by decide +kernel
theorem dX8_digest_94 : decode cX8_digest 94 = .ok (.ldc2_w 429, 3) := by decide +kernel
theorem dX8_digest_97 : decode cX8_digest 97 = .ok (.aload_n 0, 1) := by decide +kernel
theorem dX8_digest_98 : decode cX8_digest 98 = .ok (.sipush 1000, 3) := by decide +kernel
theorem dX8_digest_101 : decode cX8_digest 101 = .ok (.invokevirtual 434, 3) := by decide +kernel
theorem dX8_digest_104 : decode cX8_digest 104 = .ok (.dmul, 1) := by decide +kernel
theorem dX8_digest_105 : decode cX8_digest 105 = .ok (.d2l, 1) := by decide +kernel
theorem dX8_digest_106 : decode cX8_digest 106 = .ok (.ladd, 1) := by decide +kernel
theorem dX8_digest_107 : decode cX8_digest 107 = .ok (.lstore_n 1, 1) := by decide +kernel
theorem dX8_digest_108 : decode cX8_digest 108 = .ok (.lload_n 1, 1) := by decide +kernel
theorem dX8_digest_109 : decode cX8_digest 109 = .ok (.ldc2_w 408, 3) := by decide +kernel
theorem dX8_digest_112 : decode cX8_digest 112 = .ok (.lmul, 1) := by decide +kernel
theorem dX8_digest_113 : decode cX8_digest 113 = .ok (.aload_n 0, 1) := by decide +kernel
theorem dX8_digest_114 : decode cX8_digest 114 = .ok (.invokevirtual 437, 3) := by decide +kernel
theorem dX8_digest_117 : decode cX8_digest 117 = .ok (.ifCond .eq 7, 3) := by decide +kernel
theorem dX8_digest_120 : decode cX8_digest 120 = .ok (.iconst 1, 1) := by decide +kernel
theorem dX8_digest_121 : decode cX8_digest 121 = .ok (.goto 4, 3) := by decide +kernel
theorem dX8_digest_124 : decode cX8_digest 124 = .ok (.iconst 0, 1) := by decide +kernel
theorem dX8_digest_125 : decode cX8_digest 125 = .ok (.i2l, 1) := by decide +kernel
theorem dX8_digest_126 : decode cX8_digest 126 = .ok (.ladd, 1) := by decide +kernel
theorem dX8_digest_127 : decode cX8_digest 127 = .ok (.lreturn, 1) := by decide +kernel
theorem dX8_isWithin_0 : decode cX8_isWithin 0 = .ok (.iload_n 0, 1) := by decide +kernel
theorem dX8_isWithin_1 : decode cX8_isWithin 1 = .ok (.iload_n 1, 1) := by decide +kernel
theorem dX8_isWithin_2 : decode cX8_isWithin 2 = .ok (.if_icmp .lt 12, 3) := by decide +kernel
theorem dX8_isWithin_5 : decode cX8_isWithin 5 = .ok (.iload_n 0, 1) := by decide +kernel
theorem dX8_isWithin_6 : decode cX8_isWithin 6 = .ok (.iload_n 2, 1) := by decide +kernel
theorem dX8_isWithin_7 : decode cX8_isWithin 7 = .ok (.if_icmp .gt 7, 3) := by decide +kernel
theorem dX8_isWithin_10 : decode cX8_isWithin 10 = .ok (.iconst 1, 1) := by decide +kernel
theorem dX8_isWithin_11 : decode cX8_isWithin 11 = .ok (.goto 4, 3) := by decide +kernel
theorem dX8_isWithin_14 : decode cX8_isWithin 14 = .ok (.iconst 0, 1) := by decide +kernel
theorem dX8_isWithin_15 : decode cX8_isWithin 15 = .ok (.ireturn, 1) := by decide +kernel
theorem dX8_demandRival_0 : decode cX8_demandRival 0 = .ok (.iload_n 0, 1) := by decide +kernel
theorem dX8_demandRival_1 : decode cX8_demandRival 1 = .ok (.iconst (-1), 1) := by decide +kernel
theorem dX8_demandRival_2 : decode cX8_demandRival 2 = .ok (.iconst 1, 1) := by decide +kernel
theorem dX8_demandRival_3 : decode cX8_demandRival 3 = .ok (.invokestatic 44, 3) := by decide +kernel
theorem dX8_demandRival_6 : decode cX8_demandRival 6 = .ok (.ifCond .ne 14, 3) := by decide +kernel
theorem dX8_demandRival_9 : decode cX8_demandRival 9 = .ok (.new 440, 3) := by decide +kernel
theorem dX8_demandRival_12 : decode cX8_demandRival 12 = .ok (.dup, 1) := by decide +kernel
theorem dX8_demandRival_13 : decode cX8_demandRival 13 = .ok (.ldc_w 442, 3) := by decide +kernel
theorem dX8_demandRival_16 : decode cX8_demandRival 16 = .ok (.invokespecial 444, 3) := by decide +kernel
theorem dX8_demandRival_19 : decode cX8_demandRival 19 = .ok (.athrow, 1) := by decide +kernel
theorem dX8_demandRival_20 : decode cX8_demandRival 20 = .ok (.return_, 1) := by decide +kernel
theorem dX8_demandArgument_0 : decode cX8_demandArgument 0 = .ok (.iload_n 0, 1) := by decide +kernel
theorem dX8_demandArgument_1 : decode cX8_demandArgument 1 = .ok (.ifCond .ne 14, 3) := by decide +kernel
theorem dX8_demandArgument_4 : decode cX8_demandArgument 4 = .ok (.new 447, 3) := by decide +kernel
theorem dX8_demandArgument_7 : decode cX8_demandArgument 7 = .ok (.dup, 1) := by decide +kernel
theorem dX8_demandArgument_8 : decode cX8_demandArgument 8 = .ok (.ldc_w 449, 3) := by decide +kernel
theorem dX8_demandArgument_11 : decode cX8_demandArgument 11 = .ok (.invokespecial 451, 3) := by decide +kernel
theorem dX8_demandArgument_14 : decode cX8_demandArgument 14 = .ok (.athrow, 1) := by decide +kernel
theorem dX8_demandArgument_15 : decode cX8_demandArgument 15 = .ok (.return_, 1) := by decide +kernel
theorem dX8_demandState_0 : decode cX8_demandState 0 = .ok (.iload_n 0, 1) := by decide +kernel
theorem dX8_demandState_1 : decode cX8_demandState 1 = .ok (.ifCond .ne 14, 3) := by decide +kernel
theorem dX8_demandState_4 : decode cX8_demandState 4 = .ok (.new 452, 3) := by decide +kernel
theorem dX8_demandState_7 : decode cX8_demandState 7 = .ok (.dup, 1) := by decide +kernel
theorem dX8_demandState_8 : decode cX8_demandState 8 = .ok (.ldc_w 454, 3) := by decide +kernel
theorem dX8_demandState_11 : decode cX8_demandState 11 = .ok (.invokespecial 456, 3) := by decide +kernel
theorem dX8_demandState_14 : decode cX8_demandState 14 = .ok (.athrow, 1) := by decide +kernel
theorem dX8_demandState_15 : decode cX8_demandState 15 = .ok (.return_, 1) := by decide +kernel
theorem dX8_demandGoods_0 : decode cX8_demandGoods 0 = .ok (.iload_n 0, 1) := by decide +kernel
theorem dX8_demandGoods_1 : decode cX8_demandGoods 1 = .ok (.iconst 1, 1) := by decide +kernel
theorem dX8_demandGoods_2 : decode cX8_demandGoods 2 = .ok (.ldc 128, 2) := by decide +kernel
theorem dX8_demandGoods_4 : decode cX8_demandGoods 4 = .ok (.invokestatic 44, 3) := by decide +kernel
theorem dX8_demandGoods_7 : decode cX8_demandGoods 7 = .ok (.invokestatic 48, 3) := by decide +kernel
theorem dX8_demandGoods_10 : decode cX8_demandGoods 10 = .ok (.iload_n 1, 1) := by decide +kernel
theorem dX8_demandGoods_11 : decode cX8_demandGoods 11 = .ok (.bipush 30, 2) := by decide +kernel
theorem dX8_demandGoods_13 : decode cX8_demandGoods 13 = .ok (.sipush 3600, 3) := by decide +kernel
theorem dX8_demandGoods_16 : decode cX8_demandGoods 16 = .ok (.invokestatic 44, 3) := by decide +kernel
theorem dX8_demandGoods_19 : decode cX8_demandGoods 19 = .ok (.invokestatic 48, 3) := by decide +kernel
theorem dX8_demandGoods_22 : decode cX8_demandGoods 22 = .ok (.return_, 1) := by decide +kernel
theorem dX8_landAt_0 : decode cX8_landAt 0 = .ok (.iload_n 1, 1) := by decide +kernel
theorem dX8_landAt_1 : decode cX8_landAt 1 = .ok (.ifCond .lt 14, 3) := by decide +kernel
theorem dX8_landAt_4 : decode cX8_landAt 4 = .ok (.iload_n 1, 1) := by decide +kernel
theorem dX8_landAt_5 : decode cX8_landAt 5 = .ok (.aload_n 0, 1) := by decide +kernel
theorem dX8_landAt_6 : decode cX8_landAt 6 = .ok (.getfield 10, 3) := by decide +kernel
theorem dX8_landAt_9 : decode cX8_landAt 9 = .ok (.invokevirtual 89, 3) := by decide +kernel
theorem dX8_landAt_12 : decode cX8_landAt 12 = .ok (.if_icmp .lt 14, 3) := by decide +kernel
theorem dX8_landAt_15 : decode cX8_landAt 15 = .ok (.new 440, 3) := by decide +kernel
theorem dX8_landAt_18 : decode cX8_landAt 18 = .ok (.dup, 1) := by decide +kernel
theorem dX8_landAt_19 : decode cX8_landAt 19 = .ok (.ldc_w 457, 3) := by decide +kernel
theorem dX8_landAt_22 : decode cX8_landAt 22 = .ok (.invokespecial 444, 3) := by decide +kernel
theorem dX8_landAt_25 : decode cX8_landAt 25 = .ok (.athrow, 1) := by decide +kernel
theorem dX8_landAt_26 : decode cX8_landAt 26 = .ok (.aload_n 0, 1) := by decide +kernel
theorem dX8_landAt_27 : decode cX8_landAt 27 = .ok (.getfield 10, 3) := by decide +kernel
theorem dX8_landAt_30 : decode cX8_landAt 30 = .ok (.iload_n 1, 1) := by decide +kernel
theorem dX8_landAt_31 : decode cX8_landAt 31 = .ok (.invokevirtual 306, 3) := by decide +kernel
theorem dX8_landAt_34 : decode cX8_landAt 34 = .ok (.checkcast 94, 3) := by decide +kernel
theorem dX8_landAt_37 : decode cX8_landAt 37 = .ok (.areturn, 1) := by decide +kernel
theorem dX8_buyerAt_0 : decode cX8_buyerAt 0 = .ok (.iload_n 1, 1) := by decide +kernel
theorem dX8_buyerAt_1 : decode cX8_buyerAt 1 = .ok (.ifCond .lt 14, 3) := by decide +kernel
theorem dX8_buyerAt_4 : decode cX8_buyerAt 4 = .ok (.iload_n 1, 1) := by decide +kernel
theorem dX8_buyerAt_5 : decode cX8_buyerAt 5 = .ok (.aload_n 0, 1) := by decide +kernel
theorem dX8_buyerAt_6 : decode cX8_buyerAt 6 = .ok (.getfield 16, 3) := by decide +kernel
theorem dX8_buyerAt_9 : decode cX8_buyerAt 9 = .ok (.invokevirtual 89, 3) := by decide +kernel
theorem dX8_buyerAt_12 : decode cX8_buyerAt 12 = .ok (.if_icmp .lt 14, 3) := by decide +kernel
theorem dX8_buyerAt_15 : decode cX8_buyerAt 15 = .ok (.new 440, 3) := by decide +kernel
theorem dX8_buyerAt_18 : decode cX8_buyerAt 18 = .ok (.dup, 1) := by decide +kernel
theorem dX8_buyerAt_19 : decode cX8_buyerAt 19 = .ok (.ldc_w 459, 3) := by decide +kernel
theorem dX8_buyerAt_22 : decode cX8_buyerAt 22 = .ok (.invokespecial 444, 3) := by decide +kernel
theorem dX8_buyerAt_25 : decode cX8_buyerAt 25 = .ok (.athrow, 1) := by decide +kernel
theorem dX8_buyerAt_26 : decode cX8_buyerAt 26 = .ok (.aload_n 0, 1) := by decide +kernel
theorem dX8_buyerAt_27 : decode cX8_buyerAt 27 = .ok (.getfield 16, 3) := by decide +kernel
theorem dX8_buyerAt_30 : decode cX8_buyerAt 30 = .ok (.iload_n 1, 1) := by decide +kernel
theorem dX8_buyerAt_31 : decode cX8_buyerAt 31 = .ok (.invokevirtual 306, 3) := by decide +kernel
theorem dX8_buyerAt_34 : decode cX8_buyerAt 34 = .ok (.checkcast 80, 3) := by decide +kernel
theorem dX8_buyerAt_37 : decode cX8_buyerAt 37 = .ok (.areturn, 1) := by decide +kernel
theorem dX8_exporterAt_0 : decode cX8_exporterAt 0 = .ok (.iload_n 1, 1) := by decide +kernel
theorem dX8_exporterAt_1 : decode cX8_exporterAt 1 = .ok (.ifCond .lt 14, 3) := by decide +kernel
theorem dX8_exporterAt_4 : decode cX8_exporterAt 4 = .ok (.iload_n 1, 1) := by decide +kernel
theorem dX8_exporterAt_5 : decode cX8_exporterAt 5 = .ok (.aload_n 0, 1) := by decide +kernel
theorem dX8_exporterAt_6 : decode cX8_exporterAt 6 = .ok (.getfield 19, 3) := by decide +kernel
theorem dX8_exporterAt_9 : decode cX8_exporterAt 9 = .ok (.invokevirtual 89, 3) := by decide +kernel
theorem dX8_exporterAt_12 : decode cX8_exporterAt 12 = .ok (.if_icmp .lt 14, 3) := by decide +kernel
theorem dX8_exporterAt_15 : decode cX8_exporterAt 15 = .ok (.new 440, 3) := by decide +kernel
theorem dX8_exporterAt_18 : decode cX8_exporterAt 18 = .ok (.dup, 1) := by decide +kernel
theorem dX8_exporterAt_19 : decode cX8_exporterAt 19 = .ok (.ldc_w 461, 3) := by decide +kernel
theorem dX8_exporterAt_22 : decode cX8_exporterAt 22 = .ok (.invokespecial 444, 3) := by decide +kernel
theorem dX8_exporterAt_25 : decode cX8_exporterAt 25 = .ok (.athrow, 1) := by decide +kernel
theorem dX8_exporterAt_26 : decode cX8_exporterAt 26 = .ok (.aload_n 0, 1) := by decide +kernel
theorem dX8_exporterAt_27 : decode cX8_exporterAt 27 = .ok (.getfield 19, 3) := by decide +kernel
theorem dX8_exporterAt_30 : decode cX8_exporterAt 30 = .ok (.iload_n 1, 1) := by decide +kernel
theorem dX8_exporterAt_31 : decode cX8_exporterAt 31 = .ok (.invokevirtual 306, 3) := by decide +kernel
theorem dX8_exporterAt_34 : decode cX8_exporterAt 34 = .ok (.checkcast 139, 3) := by decide +kernel
theorem dX8_exporterAt_37 : decode cX8_exporterAt 37 = .ok (.areturn, 1) := by decide +kernel
theorem dX8_policyAt_0 : decode cX8_policyAt 0 = .ok (.iload_n 1, 1) := by decide +kernel
theorem dX8_policyAt_1 : decode cX8_policyAt 1 = .ok (.ifCond .lt 14, 3) := by decide +kernel
theorem dX8_policyAt_4 : decode cX8_policyAt 4 = .ok (.iload_n 1, 1) := by decide +kernel
theorem dX8_policyAt_5 : decode cX8_policyAt 5 = .ok (.aload_n 0, 1) := by decide +kernel
theorem dX8_policyAt_6 : decode cX8_policyAt 6 = .ok (.getfield 22, 3) := by decide +kernel
theorem dX8_policyAt_9 : decode cX8_policyAt 9 = .ok (.invokevirtual 89, 3) := by decide +kernel
theorem dX8_policyAt_12 : decode cX8_policyAt 12 = .ok (.if_icmp .lt 14, 3) := by decide +kernel
theorem dX8_policyAt_15 : decode cX8_policyAt 15 = .ok (.new 440, 3) := by decide +kernel
theorem dX8_policyAt_18 : decode cX8_policyAt 18 = .ok (.dup, 1) := by decide +kernel
theorem dX8_policyAt_19 : decode cX8_policyAt 19 = .ok (.ldc_w 463, 3) := by decide +kernel
theorem dX8_policyAt_22 : decode cX8_policyAt 22 = .ok (.invokespecial 444, 3) := by decide +kernel
theorem dX8_policyAt_25 : decode cX8_policyAt 25 = .ok (.athrow, 1) := by decide +kernel
theorem dX8_policyAt_26 : decode cX8_policyAt 26 = .ok (.aload_n 0, 1) := by decide +kernel
theorem dX8_policyAt_27 : decode cX8_policyAt 27 = .ok (.getfield 22, 3) := by decide +kernel
theorem dX8_policyAt_30 : decode cX8_policyAt 30 = .ok (.iload_n 1, 1) := by decide +kernel
theorem dX8_policyAt_31 : decode cX8_policyAt 31 = .ok (.invokevirtual 306, 3) := by decide +kernel
theorem dX8_policyAt_34 : decode cX8_policyAt 34 = .ok (.checkcast 167, 3) := by decide +kernel
theorem dX8_policyAt_37 : decode cX8_policyAt 37 = .ok (.areturn, 1) := by decide +kernel
theorem dX8_shipmentAt_0 : decode cX8_shipmentAt 0 = .ok (.iload_n 1, 1) := by decide +kernel
theorem dX8_shipmentAt_1 : decode cX8_shipmentAt 1 = .ok (.ifCond .lt 14, 3) := by decide +kernel
theorem dX8_shipmentAt_4 : decode cX8_shipmentAt 4 = .ok (.iload_n 1, 1) := by decide +kernel
theorem dX8_shipmentAt_5 : decode cX8_shipmentAt 5 = .ok (.aload_n 0, 1) := by decide +kernel
theorem dX8_shipmentAt_6 : decode cX8_shipmentAt 6 = .ok (.getfield 25, 3) := by decide +kernel
theorem dX8_shipmentAt_9 : decode cX8_shipmentAt 9 = .ok (.invokevirtual 89, 3) := by decide +kernel
theorem dX8_shipmentAt_12 : decode cX8_shipmentAt 12 = .ok (.if_icmp .lt 14, 3) := by decide +kernel
theorem dX8_shipmentAt_15 : decode cX8_shipmentAt 15 = .ok (.new 440, 3) := by decide +kernel
theorem dX8_shipmentAt_18 : decode cX8_shipmentAt 18 = .ok (.dup, 1) := by decide +kernel
theorem dX8_shipmentAt_19 : decode cX8_shipmentAt 19 = .ok (.ldc_w 465, 3) := by decide +kernel
theorem dX8_shipmentAt_22 : decode cX8_shipmentAt 22 = .ok (.invokespecial 444, 3) := by decide +kernel
theorem dX8_shipmentAt_25 : decode cX8_shipmentAt 25 = .ok (.athrow, 1) := by decide +kernel
theorem dX8_shipmentAt_26 : decode cX8_shipmentAt 26 = .ok (.aload_n 0, 1) := by decide +kernel
theorem dX8_shipmentAt_27 : decode cX8_shipmentAt 27 = .ok (.getfield 25, 3) := by decide +kernel
theorem dX8_shipmentAt_30 : decode cX8_shipmentAt 30 = .ok (.iload_n 1, 1) := by decide +kernel
theorem dX8_shipmentAt_31 : decode cX8_shipmentAt 31 = .ok (.invokevirtual 306, 3) := by decide +kernel
theorem dX8_shipmentAt_34 : decode cX8_shipmentAt 34 = .ok (.checkcast 201, 3) := by decide +kernel
theorem dX8_shipmentAt_37 : decode cX8_shipmentAt 37 = .ok (.areturn, 1) := by decide +kernel
theorem dX8_nextInRow_0 : decode cX8_nextInRow 0 = .ok (.bipush 27, 2) := by decide +kernel
theorem dX8_nextInRow_2 : decode cX8_nextInRow 2 = .ok (.iload_n 0, 1) := by decide +kernel
theorem dX8_nextInRow_3 : decode cX8_nextInRow 3 = .ok (.imul, 1) := by decide +kernel
theorem dX8_nextInRow_4 : decode cX8_nextInRow 4 = .ok (.bipush 29, 2) := by decide +kernel
theorem dX8_nextInRow_6 : decode cX8_nextInRow 6 = .ok (.iadd, 1) := by decide +kernel
theorem dX8_nextInRow_7 : decode cX8_nextInRow 7 = .ok (.bipush 101, 2) := by decide +kernel
theorem dX8_nextInRow_9 : decode cX8_nextInRow 9 = .ok (.irem, 1) := by decide +kernel
theorem dX8_nextInRow_10 : decode cX8_nextInRow 10 = .ok (.ireturn, 1) := by decide +kernel
theorem dX8_since_0 : decode cX8_since 0 = .ok (.iload_n 2, 1) := by decide +kernel
theorem dX8_since_1 : decode cX8_since 1 = .ok (.ifCond .ne 5, 3) := by decide +kernel
theorem dX8_since_4 : decode cX8_since 4 = .ok (.iconst (-1), 1) := by decide +kernel
theorem dX8_since_5 : decode cX8_since 5 = .ok (.ireturn, 1) := by decide +kernel
theorem dX8_since_6 : decode cX8_since 6 = .ok (.iload_n 1, 1) := by decide +kernel
theorem dX8_since_7 : decode cX8_since 7 = .ok (.iconst (-1), 1) := by decide +kernel
theorem dX8_since_8 : decode cX8_since 8 = .ok (.if_icmp .ne 10, 3) := by decide +kernel
theorem dX8_since_11 : decode cX8_since 11 = .ok (.aload_n 0, 1) := by decide +kernel
theorem dX8_since_12 : decode cX8_since 12 = .ok (.getfield 151, 3) := by decide +kernel
theorem dX8_since_15 : decode cX8_since 15 = .ok (.goto 4, 3) := by decide +kernel
theorem dX8_since_18 : decode cX8_since 18 = .ok (.iload_n 1, 1) := by decide +kernel
theorem dX8_since_19 : decode cX8_since 19 = .ok (.ireturn, 1) := by decide +kernel
theorem dX8_addLand_0 : decode cX8_addLand 0 = .ok (.new 94, 3) := by decide +kernel
theorem dX8_addLand_3 : decode cX8_addLand 3 = .ok (.dup, 1) := by decide +kernel
theorem dX8_addLand_4 : decode cX8_addLand 4 = .ok (.aload_n 0, 1) := by decide +kernel
theorem dX8_addLand_5 : decode cX8_addLand 5 = .ok (.getfield 10, 3) := by decide +kernel
theorem dX8_addLand_8 : decode cX8_addLand 8 = .ok (.invokevirtual 89, 3) := by decide +kernel
theorem dX8_addLand_11 : decode cX8_addLand 11 = .ok (.iload_n 1, 1) := by decide +kernel
theorem dX8_addLand_12 : decode cX8_addLand 12 = .ok (.iload_n 2, 1) := by decide +kernel
theorem dX8_addLand_13 : decode cX8_addLand 13 = .ok (.invokespecial 470, 3) := by decide +kernel
theorem dX8_addLand_16 : decode cX8_addLand 16 = .ok (.astore_n 3, 1) := by decide +kernel
theorem dX8_addLand_17 : decode cX8_addLand 17 = .ok (.aload_n 0, 1) := by decide +kernel
theorem dX8_addLand_18 : decode cX8_addLand 18 = .ok (.getfield 10, 3) := by decide +kernel
theorem dX8_addLand_21 : decode cX8_addLand 21 = .ok (.aload_n 3, 1) := by decide +kernel
theorem dX8_addLand_22 : decode cX8_addLand 22 = .ok (.invokevirtual 172, 3) := by decide +kernel
theorem dX8_addLand_25 : decode cX8_addLand 25 = .ok (.pop, 1) := by decide +kernel
theorem dX8_addLand_26 : decode cX8_addLand 26 = .ok (.aload_n 3, 1) := by decide +kernel
theorem dX8_addLand_27 : decode cX8_addLand 27 = .ok (.areturn, 1) := by decide +kernel
theorem dX8_addBuyer_0 : decode cX8_addBuyer 0 = .ok (.new 80, 3) := by decide +kernel
theorem dX8_addBuyer_3 : decode cX8_addBuyer 3 = .ok (.dup, 1) := by decide +kernel
theorem dX8_addBuyer_4 : decode cX8_addBuyer 4 = .ok (.aload_n 0, 1) := by decide +kernel
theorem dX8_addBuyer_5 : decode cX8_addBuyer 5 = .ok (.getfield 16, 3) := by decide +kernel
theorem dX8_addBuyer_8 : decode cX8_addBuyer 8 = .ok (.invokevirtual 89, 3) := by decide +kernel
theorem dX8_addBuyer_11 : decode cX8_addBuyer 11 = .ok (.aload_n 1, 1) := by decide +kernel
theorem dX8_addBuyer_12 : decode cX8_addBuyer 12 = .ok (.iload_n 2, 1) := by decide +kernel
theorem dX8_addBuyer_13 : decode cX8_addBuyer 13 = .ok (.invokespecial 471, 3) := by decide +kernel
theorem dX8_addBuyer_16 : decode cX8_addBuyer 16 = .ok (.astore_n 3, 1) := by decide +kernel
theorem dX8_addBuyer_17 : decode cX8_addBuyer 17 = .ok (.aload_n 0, 1) := by decide +kernel
theorem dX8_addBuyer_18 : decode cX8_addBuyer 18 = .ok (.getfield 16, 3) := by decide +kernel
theorem dX8_addBuyer_21 : decode cX8_addBuyer 21 = .ok (.aload_n 3, 1) := by decide +kernel
theorem dX8_addBuyer_22 : decode cX8_addBuyer 22 = .ok (.invokevirtual 172, 3) := by decide +kernel
theorem dX8_addBuyer_25 : decode cX8_addBuyer 25 = .ok (.pop, 1) := by decide +kernel
theorem dX8_addBuyer_26 : decode cX8_addBuyer 26 = .ok (.aload_n 3, 1) := by decide +kernel
theorem dX8_addBuyer_27 : decode cX8_addBuyer 27 = .ok (.areturn, 1) := by decide +kernel
theorem dX8_addExporter_0 : decode cX8_addExporter 0 = .ok (.new 139, 3) := by decide +kernel
theorem dX8_addExporter_3 : decode cX8_addExporter 3 = .ok (.dup, 1) := by decide +kernel
theorem dX8_addExporter_4 : decode cX8_addExporter 4 = .ok (.aload_n 0, 1) := by decide +kernel
theorem dX8_addExporter_5 : decode cX8_addExporter 5 = .ok (.getfield 19, 3) := by decide +kernel
theorem dX8_addExporter_8 : decode cX8_addExporter 8 = .ok (.invokevirtual 89, 3) := by decide +kernel
theorem dX8_addExporter_11 : decode cX8_addExporter 11 = .ok (.invokespecial 474, 3) := by decide +kernel
theorem dX8_addExporter_14 : decode cX8_addExporter 14 = .ok (.astore_n 1, 1) := by decide +kernel
theorem dX8_addExporter_15 : decode cX8_addExporter 15 = .ok (.aload_n 0, 1) := by decide +kernel
theorem dX8_addExporter_16 : decode cX8_addExporter 16 = .ok (.getfield 19, 3) := by decide +kernel
theorem dX8_addExporter_19 : decode cX8_addExporter 19 = .ok (.aload_n 1, 1) := by decide +kernel
theorem dX8_addExporter_20 : decode cX8_addExporter 20 = .ok (.invokevirtual 172, 3) := by decide +kernel
theorem dX8_addExporter_23 : decode cX8_addExporter 23 = .ok (.pop, 1) := by decide +kernel
theorem dX8_addExporter_24 : decode cX8_addExporter 24 = .ok (.aload_n 1, 1) := by decide +kernel
theorem dX8_addExporter_25 : decode cX8_addExporter 25 = .ok (.areturn, 1) := by decide +kernel
theorem dX8_riskUnder_0 : decode cX8_riskUnder 0 = .ok (.iconst 0, 1) := by decide +kernel
theorem dX8_riskUnder_1 : decode cX8_riskUnder 1 = .ok (.istore_n 3, 1) := by decide +kernel
theorem dX8_riskUnder_2 : decode cX8_riskUnder 2 = .ok (.iconst 0, 1) := by decide +kernel
theorem dX8_riskUnder_3 : decode cX8_riskUnder 3 = .ok (.istore 4, 2) := by decide +kernel
theorem dX8_riskUnder_5 : decode cX8_riskUnder 5 = .ok (.iload 4, 2) := by decide +kernel
theorem dX8_riskUnder_7 : decode cX8_riskUnder 7 = .ok (.aload_n 0, 1) := by decide +kernel
theorem dX8_riskUnder_8 : decode cX8_riskUnder 8 = .ok (.getfield 25, 3) := by decide +kernel
theorem dX8_riskUnder_11 : decode cX8_riskUnder 11 = .ok (.invokevirtual 89, 3) := by decide +kernel
theorem dX8_riskUnder_14 : decode cX8_riskUnder 14 = .ok (.if_icmp .ge 49, 3) := by decide +kernel
theorem dX8_riskUnder_17 : decode cX8_riskUnder 17 = .ok (.aload_n 0, 1) := by decide +kernel
theorem dX8_riskUnder_18 : decode cX8_riskUnder 18 = .ok (.getfield 25, 3) := by decide +kernel
theorem dX8_riskUnder_21 : decode cX8_riskUnder 21 = .ok (.iload 4, 2) := by decide +kernel
theorem dX8_riskUnder_23 : decode cX8_riskUnder 23 = .ok (.invokevirtual 306, 3) := by decide +kernel
theorem dX8_riskUnder_26 : decode cX8_riskUnder 26 = .ok (.checkcast 201, 3) := by decide +kernel
theorem dX8_riskUnder_29 : decode cX8_riskUnder 29 = .ok (.astore 5, 2) := by decide +kernel
theorem dX8_riskUnder_31 : decode cX8_riskUnder 31 = .ok (.aload 5, 2) := by decide +kernel
theorem dX8_riskUnder_33 : decode cX8_riskUnder 33 = .ok (.getfield 274, 3) := by decide +kernel
theorem dX8_riskUnder_36 : decode cX8_riskUnder 36 = .ok (.aload_n 1, 1) := by decide +kernel
theorem dX8_riskUnder_37 : decode cX8_riskUnder 37 = .ok (.if_acmp .ne 20, 3) := by decide +kernel
theorem dX8_riskUnder_40 : decode cX8_riskUnder 40 = .ok (.aload 5, 2) := by decide +kernel
theorem dX8_riskUnder_42 : decode cX8_riskUnder 42 = .ok (.getfield 310, 3) := by decide +kernel
theorem dX8_riskUnder_45 : decode cX8_riskUnder 45 = .ok (.aload_n 2, 1) := by decide +kernel
theorem dX8_riskUnder_46 : decode cX8_riskUnder 46 = .ok (.if_acmp .ne 11, 3) := by decide +kernel
theorem dX8_riskUnder_49 : decode cX8_riskUnder 49 = .ok (.iload_n 3, 1) := by decide +kernel
theorem dX8_riskUnder_50 : decode cX8_riskUnder 50 = .ok (.aload 5, 2) := by decide +kernel
theorem dX8_riskUnder_52 : decode cX8_riskUnder 52 = .ok (.invokevirtual 476, 3) := by decide +kernel
theorem dX8_riskUnder_55 : decode cX8_riskUnder 55 = .ok (.iadd, 1) := by decide +kernel
theorem dX8_riskUnder_56 : decode cX8_riskUnder 56 = .ok (.istore_n 3, 1) := by decide +kernel
theorem dX8_riskUnder_57 : decode cX8_riskUnder 57 = .ok (.iinc 4 1, 3) := by decide +kernel
theorem dX8_riskUnder_60 : decode cX8_riskUnder 60 = .ok (.goto (-55), 3) := by decide +kernel
theorem dX8_riskUnder_63 : decode cX8_riskUnder 63 = .ok (.iload_n 3, 1) := by decide +kernel
theorem dX8_riskUnder_64 : decode cX8_riskUnder 64 = .ok (.ireturn, 1) := by decide +kernel
theorem dX8_riskIn_0 : decode cX8_riskIn 0 = .ok (.iconst 0, 1) := by decide +kernel
theorem dX8_riskIn_1 : decode cX8_riskIn 1 = .ok (.istore_n 2, 1) := by decide +kernel
theorem dX8_riskIn_2 : decode cX8_riskIn 2 = .ok (.iconst 0, 1) := by decide +kernel
theorem dX8_riskIn_3 : decode cX8_riskIn 3 = .ok (.istore_n 3, 1) := by decide +kernel
theorem dX8_riskIn_4 : decode cX8_riskIn 4 = .ok (.iload_n 3, 1) := by decide +kernel
theorem dX8_riskIn_5 : decode cX8_riskIn 5 = .ok (.aload_n 0, 1) := by decide +kernel
theorem dX8_riskIn_6 : decode cX8_riskIn 6 = .ok (.getfield 25, 3) := by decide +kernel
theorem dX8_riskIn_9 : decode cX8_riskIn 9 = .ok (.invokevirtual 89, 3) := by decide +kernel
theorem dX8_riskIn_12 : decode cX8_riskIn 12 = .ok (.if_icmp .ge 42, 3) := by decide +kernel
theorem dX8_riskIn_15 : decode cX8_riskIn 15 = .ok (.aload_n 0, 1) := by decide +kernel
theorem dX8_riskIn_16 : decode cX8_riskIn 16 = .ok (.getfield 25, 3) := by decide +kernel
theorem dX8_riskIn_19 : decode cX8_riskIn 19 = .ok (.iload_n 3, 1) := by decide +kernel
theorem dX8_riskIn_20 : decode cX8_riskIn 20 = .ok (.invokevirtual 306, 3) := by decide +kernel
theorem dX8_riskIn_23 : decode cX8_riskIn 23 = .ok (.checkcast 201, 3) := by decide +kernel
theorem dX8_riskIn_26 : decode cX8_riskIn 26 = .ok (.astore 4, 2) := by decide +kernel
theorem dX8_riskIn_28 : decode cX8_riskIn 28 = .ok (.aload 4, 2) := by decide +kernel
theorem dX8_riskIn_30 : decode cX8_riskIn 30 = .ok (.getfield 310, 3) := by decide +kernel
theorem dX8_riskIn_33 : decode cX8_riskIn 33 = .ok (.getfield 206, 3) := by decide +kernel
theorem dX8_riskIn_36 : decode cX8_riskIn 36 = .ok (.aload_n 1, 1) := by decide +kernel
theorem dX8_riskIn_37 : decode cX8_riskIn 37 = .ok (.if_acmp .ne 11, 3) := by decide +kernel
theorem dX8_riskIn_40 : decode cX8_riskIn 40 = .ok (.iload_n 2, 1) := by decide +kernel
theorem dX8_riskIn_41 : decode cX8_riskIn 41 = .ok (.aload 4, 2) := by decide +kernel
theorem dX8_riskIn_43 : decode cX8_riskIn 43 = .ok (.invokevirtual 476, 3) := by decide +kernel
theorem dX8_riskIn_46 : decode cX8_riskIn 46 = .ok (.iadd, 1) := by decide +kernel
theorem dX8_riskIn_47 : decode cX8_riskIn 47 = .ok (.istore_n 2, 1) := by decide +kernel
theorem dX8_riskIn_48 : decode cX8_riskIn 48 = .ok (.iinc 3 1, 3) := by decide +kernel
theorem dX8_riskIn_51 : decode cX8_riskIn 51 = .ok (.goto (-47), 3) := by decide +kernel
theorem dX8_riskIn_54 : decode cX8_riskIn 54 = .ok (.iload_n 2, 1) := by decide +kernel
theorem dX8_riskIn_55 : decode cX8_riskIn 55 = .ok (.ireturn, 1) := by decide +kernel
theorem dX8_isCoverStopped_0 : decode cX8_isCoverStopped 0 = .ok (.iconst 0, 1) := by decide +kernel
theorem dX8_isCoverStopped_1 : decode cX8_isCoverStopped 1 = .ok (.istore_n 3, 1) := by decide +kernel
theorem dX8_isCoverStopped_2 : decode cX8_isCoverStopped 2 = .ok (.iload_n 3, 1) := by decide +kernel
theorem dX8_isCoverStopped_3 : decode cX8_isCoverStopped 3 = .ok (.aload_n 0, 1) := by decide +kernel
theorem dX8_isCoverStopped_4 : decode cX8_isCoverStopped 4 = .ok (.getfield 25, 3) := by decide +kernel
theorem dX8_isCoverStopped_7 : decode cX8_isCoverStopped 7 = .ok (.invokevirtual 89, 3) := by decide +kernel
theorem dX8_isCoverStopped_10 : decode cX8_isCoverStopped 10 = .ok (.if_icmp .ge 74, 3) := by decide +kernel
theorem dX8_isCoverStopped_13 : decode cX8_isCoverStopped 13 = .ok (.aload_n 0, 1) := by decide +kernel
theorem dX8_isCoverStopped_14 : decode cX8_isCoverStopped 14 = .ok (.getfield 25, 3) := by decide +kernel
theorem dX8_isCoverStopped_17 : decode cX8_isCoverStopped 17 = .ok (.iload_n 3, 1) := by decide +kernel
theorem dX8_isCoverStopped_18 : decode cX8_isCoverStopped 18 = .ok (.invokevirtual 306, 3) := by decide +kernel
theorem dX8_isCoverStopped_21 : decode cX8_isCoverStopped 21 = .ok (.checkcast 201, 3) := by decide +kernel
theorem dX8_isCoverStopped_24 : decode cX8_isCoverStopped 24 = .ok (.astore 4, 2) := by decide +kernel
theorem dX8_isCoverStopped_26 : decode cX8_isCoverStopped 26 = .ok (.aload 4, 2) := by decide +kernel
theorem dX8_isCoverStopped_28 : decode cX8_isCoverStopped 28 = .ok (.getfield 274, 3) := by decide +kernel
theorem dX8_isCoverStopped_31 : decode cX8_isCoverStopped 31 = .ok (.aload_n 1, 1) := by decide +kernel
theorem dX8_isCoverStopped_32 : decode cX8_isCoverStopped 32 = .ok (.if_acmp .ne 16, 3) := by decide +kernel
theorem dX8_isCoverStopped_35 : decode cX8_isCoverStopped 35 = .ok (.aload 4, 2) := by decide +kernel
theorem dX8_isCoverStopped_37 : decode cX8_isCoverStopped 37 = .ok (.getfield 310, 3) := by decide +kernel
theorem dX8_isCoverStopped_40 : decode cX8_isCoverStopped 40 = .ok (.aload_n 2, 1) := by decide +kernel
theorem dX8_isCoverStopped_41 : decode cX8_isCoverStopped 41 = .ok (.if_acmp .ne 7, 3) := by decide +kernel
theorem dX8_isCoverStopped_44 : decode cX8_isCoverStopped 44 = .ok (.iconst 1, 1) := by decide +kernel
theorem dX8_isCoverStopped_45 : decode cX8_isCoverStopped 45 = .ok (.goto 4, 3) := by decide +kernel
theorem dX8_isCoverStopped_48 : decode cX8_isCoverStopped 48 = .ok (.iconst 0, 1) := by decide +kernel
theorem dX8_isCoverStopped_49 : decode cX8_isCoverStopped 49 = .ok (.istore 5, 2) := by decide +kernel
theorem dX8_isCoverStopped_51 : decode cX8_isCoverStopped 51 = .ok (.iload 5, 2) := by decide +kernel
theorem dX8_isCoverStopped_53 : decode cX8_isCoverStopped 53 = .ok (.ifCond .eq 25, 3) := by decide +kernel
theorem dX8_isCoverStopped_56 : decode cX8_isCoverStopped 56 = .ok (.aload 4, 2) := by decide +kernel
theorem dX8_isCoverStopped_58 : decode cX8_isCoverStopped 58 = .ok (.aload_n 0, 1) := by decide +kernel
theorem dX8_isCoverStopped_59 : decode cX8_isCoverStopped 59 = .ok (.getfield 151, 3) := by decide +kernel
theorem dX8_isCoverStopped_62 : decode cX8_isCoverStopped 62 = .ok (.invokevirtual 479, 3) := by decide +kernel
theorem dX8_isCoverStopped_65 : decode cX8_isCoverStopped 65 = .ok (.ifCond .eq 13, 3) := by decide +kernel
theorem dX8_isCoverStopped_68 : decode cX8_isCoverStopped 68 = .ok (.aload 4, 2) := by decide +kernel
theorem dX8_isCoverStopped_70 : decode cX8_isCoverStopped 70 = .ok (.getfield 256, 3) := by decide +kernel
theorem dX8_isCoverStopped_73 : decode cX8_isCoverStopped 73 = .ok (.ifCond .ne 5, 3) := by decide +kernel
theorem dX8_isCoverStopped_76 : decode cX8_isCoverStopped 76 = .ok (.iconst 1, 1) := by decide +kernel
theorem dX8_isCoverStopped_77 : decode cX8_isCoverStopped 77 = .ok (.ireturn, 1) := by decide +kernel
theorem dX8_isCoverStopped_78 : decode cX8_isCoverStopped 78 = .ok (.iinc 3 1, 3) := by decide +kernel
theorem dX8_isCoverStopped_81 : decode cX8_isCoverStopped 81 = .ok (.goto (-79), 3) := by decide +kernel
theorem dX8_isCoverStopped_84 : decode cX8_isCoverStopped 84 = .ok (.iconst 0, 1) := by decide +kernel
theorem dX8_isCoverStopped_85 : decode cX8_isCoverStopped 85 = .ok (.ireturn, 1) := by decide +kernel
theorem dX8_refusalOf_0 : decode cX8_refusalOf 0 = .ok (.aload_n 1, 1) := by decide +kernel
theorem dX8_refusalOf_1 : decode cX8_refusalOf 1 = .ok (.getfield 181, 3) := by decide +kernel
theorem dX8_refusalOf_4 : decode cX8_refusalOf 4 = .ok (.ifCond .eq 5, 3) := by decide +kernel
theorem dX8_refusalOf_7 : decode cX8_refusalOf 7 = .ok (.iconst 1, 1) := by decide +kernel
theorem dX8_refusalOf_8 : decode cX8_refusalOf 8 = .ok (.ireturn, 1) := by decide +kernel
theorem dX8_refusalOf_9 : decode cX8_refusalOf 9 = .ok (.aload_n 2, 1) := by decide +kernel
theorem dX8_refusalOf_10 : decode cX8_refusalOf 10 = .ok (.getfield 206, 3) := by decide +kernel
theorem dX8_refusalOf_13 : decode cX8_refusalOf 13 = .ok (.getfield 109, 3) := by decide +kernel
theorem dX8_refusalOf_16 : decode cX8_refusalOf 16 = .ok (.ifCond .eq 5, 3) := by decide +kernel
theorem dX8_refusalOf_19 : decode cX8_refusalOf 19 = .ok (.iconst 2, 1) := by decide +kernel
theorem dX8_refusalOf_20 : decode cX8_refusalOf 20 = .ok (.ireturn, 1) := by decide +kernel
theorem dX8_refusalOf_21 : decode cX8_refusalOf 21 = .ok (.aload_n 2, 1) := by decide +kernel
theorem dX8_refusalOf_22 : decode cX8_refusalOf 22 = .ok (.getfield 206, 3) := by decide +kernel
theorem dX8_refusalOf_25 : decode cX8_refusalOf 25 = .ok (.invokevirtual 483, 3) := by decide +kernel
theorem dX8_refusalOf_28 : decode cX8_refusalOf 28 = .ok (.ifCond .eq 5, 3) := by decide +kernel
theorem dX8_refusalOf_31 : decode cX8_refusalOf 31 = .ok (.iconst 3, 1) := by decide +kernel
theorem dX8_refusalOf_32 : decode cX8_refusalOf 32 = .ok (.ireturn, 1) := by decide +kernel
theorem dX8_refusalOf_33 : decode cX8_refusalOf 33 = .ok (.aload_n 2, 1) := by decide +kernel
theorem dX8_refusalOf_34 : decode cX8_refusalOf 34 = .ok (.invokevirtual 132, 3) := by decide +kernel
theorem dX8_refusalOf_37 : decode cX8_refusalOf 37 = .ok (.ifCond .eq 5, 3) := by decide +kernel
theorem dX8_refusalOf_40 : decode cX8_refusalOf 40 = .ok (.iconst 4, 1) := by decide +kernel
theorem dX8_refusalOf_41 : decode cX8_refusalOf 41 = .ok (.ireturn, 1) := by decide +kernel
theorem dX8_refusalOf_42 : decode cX8_refusalOf 42 = .ok (.aload_n 0, 1) := by decide +kernel
theorem dX8_refusalOf_43 : decode cX8_refusalOf 43 = .ok (.aload_n 1, 1) := by decide +kernel
theorem dX8_refusalOf_44 : decode cX8_refusalOf 44 = .ok (.aload_n 2, 1) := by decide +kernel
theorem dX8_refusalOf_45 : decode cX8_refusalOf 45 = .ok (.invokevirtual 486, 3) := by decide +kernel
theorem dX8_refusalOf_48 : decode cX8_refusalOf 48 = .ok (.ifCond .eq 5, 3) := by decide +kernel
theorem dX8_refusalOf_51 : decode cX8_refusalOf 51 = .ok (.iconst 5, 1) := by decide +kernel
theorem dX8_refusalOf_52 : decode cX8_refusalOf 52 = .ok (.ireturn, 1) := by decide +kernel
theorem dX8_refusalOf_53 : decode cX8_refusalOf 53 = .ok (.iload_n 3, 1) := by decide +kernel
theorem dX8_refusalOf_54 : decode cX8_refusalOf 54 = .ok (.aload_n 2, 1) := by decide +kernel
theorem dX8_refusalOf_55 : decode cX8_refusalOf 55 = .ok (.getfield 206, 3) := by decide +kernel
theorem dX8_refusalOf_58 : decode cX8_refusalOf 58 = .ok (.aload_n 0, 1) := by decide +kernel
theorem dX8_refusalOf_59 : decode cX8_refusalOf 59 = .ok (.getfield 151, 3) := by decide +kernel
theorem dX8_refusalOf_62 : decode cX8_refusalOf 62 = .ok (.invokevirtual 490, 3) := by decide +kernel
theorem dX8_refusalOf_65 : decode cX8_refusalOf 65 = .ok (.if_icmp .le 8, 3) := by decide +kernel
theorem dX8_refusalOf_68 : decode cX8_refusalOf 68 = .ok (.bipush 6, 2) := by decide +kernel
theorem dX8_refusalOf_70 : decode cX8_refusalOf 70 = .ok (.goto 4, 3) := by decide +kernel
theorem dX8_refusalOf_73 : decode cX8_refusalOf 73 = .ok (.iconst 0, 1) := by decide +kernel
theorem dX8_refusalOf_74 : decode cX8_refusalOf 74 = .ok (.ireturn, 1) := by decide +kernel
theorem dX8_roomFor_0 : decode cX8_roomFor 0 = .ok (.iconst 0, 1) := by decide +kernel
theorem dX8_roomFor_1 : decode cX8_roomFor 1 = .ok (.aload_n 1, 1) := by decide +kernel
theorem dX8_roomFor_2 : decode cX8_roomFor 2 = .ok (.aload_n 2, 1) := by decide +kernel
theorem dX8_roomFor_3 : decode cX8_roomFor 3 = .ok (.getfield 123, 3) := by decide +kernel
theorem dX8_roomFor_6 : decode cX8_roomFor 6 = .ok (.invokevirtual 195, 3) := by decide +kernel
theorem dX8_roomFor_9 : decode cX8_roomFor 9 = .ok (.aload_n 0, 1) := by decide +kernel
theorem dX8_roomFor_10 : decode cX8_roomFor 10 = .ok (.aload_n 1, 1) := by decide +kernel
theorem dX8_roomFor_11 : decode cX8_roomFor 11 = .ok (.aload_n 2, 1) := by decide +kernel
theorem dX8_roomFor_12 : decode cX8_roomFor 12 = .ok (.invokevirtual 351, 3) := by decide +kernel
theorem dX8_roomFor_15 : decode cX8_roomFor 15 = .ok (.isub, 1) := by decide +kernel
theorem dX8_roomFor_16 : decode cX8_roomFor 16 = .ok (.invokestatic 467, 3) := by decide +kernel
theorem dX8_roomFor_19 : decode cX8_roomFor 19 = .ok (.ireturn, 1) := by decide +kernel
theorem dX8_spaceIn_0 : decode cX8_spaceIn 0 = .ok (.iconst 0, 1) := by decide +kernel
theorem dX8_spaceIn_1 : decode cX8_spaceIn 1 = .ok (.aload_n 1, 1) := by decide +kernel
theorem dX8_spaceIn_2 : decode cX8_spaceIn 2 = .ok (.getfield 106, 3) := by decide +kernel
theorem dX8_spaceIn_5 : decode cX8_spaceIn 5 = .ok (.aload_n 0, 1) := by decide +kernel
theorem dX8_spaceIn_6 : decode cX8_spaceIn 6 = .ok (.aload_n 1, 1) := by decide +kernel
theorem dX8_spaceIn_7 : decode cX8_spaceIn 7 = .ok (.invokevirtual 385, 3) := by decide +kernel
theorem dX8_spaceIn_10 : decode cX8_spaceIn 10 = .ok (.isub, 1) := by decide +kernel
theorem dX8_spaceIn_11 : decode cX8_spaceIn 11 = .ok (.invokestatic 467, 3) := by decide +kernel
theorem dX8_spaceIn_14 : decode cX8_spaceIn 14 = .ok (.ireturn, 1) := by decide +kernel
theorem dX8_insuredOf_0 : decode cX8_insuredOf 0 = .ok (.aload_n 0, 1) := by decide +kernel
theorem dX8_insuredOf_1 : decode cX8_insuredOf 1 = .ok (.aload_n 1, 1) := by decide +kernel
theorem dX8_insuredOf_2 : decode cX8_insuredOf 2 = .ok (.aload_n 2, 1) := by decide +kernel
theorem dX8_insuredOf_3 : decode cX8_insuredOf 3 = .ok (.iload 4, 2) := by decide +kernel
theorem dX8_insuredOf_5 : decode cX8_insuredOf 5 = .ok (.invokevirtual 493, 3) := by decide +kernel
theorem dX8_insuredOf_8 : decode cX8_insuredOf 8 = .ok (.ifCond .eq 5, 3) := by decide +kernel
theorem dX8_insuredOf_11 : decode cX8_insuredOf 11 = .ok (.iconst 0, 1) := by decide +kernel
theorem dX8_insuredOf_12 : decode cX8_insuredOf 12 = .ok (.ireturn, 1) := by decide +kernel
theorem dX8_insuredOf_13 : decode cX8_insuredOf 13 = .ok (.iload_n 3, 1) := by decide +kernel
theorem dX8_insuredOf_14 : decode cX8_insuredOf 14 = .ok (.aload_n 0, 1) := by decide +kernel
theorem dX8_insuredOf_15 : decode cX8_insuredOf 15 = .ok (.aload_n 1, 1) := by decide +kernel
theorem dX8_insuredOf_16 : decode cX8_insuredOf 16 = .ok (.aload_n 2, 1) := by decide +kernel
theorem dX8_insuredOf_17 : decode cX8_insuredOf 17 = .ok (.invokevirtual 497, 3) := by decide +kernel
theorem dX8_insuredOf_20 : decode cX8_insuredOf 20 = .ok (.aload_n 0, 1) := by decide +kernel
theorem dX8_insuredOf_21 : decode cX8_insuredOf 21 = .ok (.aload_n 2, 1) := by decide +kernel
theorem dX8_insuredOf_22 : decode cX8_insuredOf 22 = .ok (.getfield 206, 3) := by decide +kernel
theorem dX8_insuredOf_25 : decode cX8_insuredOf 25 = .ok (.invokevirtual 500, 3) := by decide +kernel
theorem dX8_insuredOf_28 : decode cX8_insuredOf 28 = .ok (.invokestatic 185, 3) := by decide +kernel
theorem dX8_insuredOf_31 : decode cX8_insuredOf 31 = .ok (.invokestatic 185, 3) := by decide +kernel
theorem dX8_insuredOf_34 : decode cX8_insuredOf 34 = .ok (.ireturn, 1) := by decide +kernel
theorem dX8_reasonOf_0 : decode cX8_reasonOf 0 = .ok (.aload_n 0, 1) := by decide +kernel
theorem dX8_reasonOf_1 : decode cX8_reasonOf 1 = .ok (.aload_n 1, 1) := by decide +kernel
theorem dX8_reasonOf_2 : decode cX8_reasonOf 2 = .ok (.aload_n 2, 1) := by decide +kernel
theorem dX8_reasonOf_3 : decode cX8_reasonOf 3 = .ok (.iload 4, 2) := by decide +kernel
theorem dX8_reasonOf_5 : decode cX8_reasonOf 5 = .ok (.invokevirtual 493, 3) := by decide +kernel
theorem dX8_reasonOf_8 : decode cX8_reasonOf 8 = .ok (.istore 5, 2) := by decide +kernel
theorem dX8_reasonOf_10 : decode cX8_reasonOf 10 = .ok (.iload 5, 2) := by decide +kernel
theorem dX8_reasonOf_12 : decode cX8_reasonOf 12 = .ok (.ifCond .eq 6, 3) := by decide +kernel
theorem dX8_reasonOf_15 : decode cX8_reasonOf 15 = .ok (.iload 5, 2) := by decide +kernel
theorem dX8_reasonOf_17 : decode cX8_reasonOf 17 = .ok (.ireturn, 1) := by decide +kernel
theorem dX8_reasonOf_18 : decode cX8_reasonOf 18 = .ok (.aload_n 0, 1) := by decide +kernel
theorem dX8_reasonOf_19 : decode cX8_reasonOf 19 = .ok (.aload_n 1, 1) := by decide +kernel
theorem dX8_reasonOf_20 : decode cX8_reasonOf 20 = .ok (.aload_n 2, 1) := by decide +kernel
theorem dX8_reasonOf_21 : decode cX8_reasonOf 21 = .ok (.invokevirtual 497, 3) := by decide +kernel
theorem dX8_reasonOf_24 : decode cX8_reasonOf 24 = .ok (.istore 6, 2) := by decide +kernel
theorem dX8_reasonOf_26 : decode cX8_reasonOf 26 = .ok (.aload_n 0, 1) := by decide +kernel
theorem dX8_reasonOf_27 : decode cX8_reasonOf 27 = .ok (.aload_n 2, 1) := by decide +kernel
theorem dX8_reasonOf_28 : decode cX8_reasonOf 28 = .ok (.getfield 206, 3) := by decide +kernel
theorem dX8_reasonOf_31 : decode cX8_reasonOf 31 = .ok (.invokevirtual 500, 3) := by decide +kernel
theorem dX8_reasonOf_34 : decode cX8_reasonOf 34 = .ok (.istore 7, 2) := by decide +kernel
theorem dX8_reasonOf_36 : decode cX8_reasonOf 36 = .ok (.iload_n 3, 1) := by decide +kernel
theorem dX8_reasonOf_37 : decode cX8_reasonOf 37 = .ok (.iload 6, 2) := by decide +kernel
theorem dX8_reasonOf_39 : decode cX8_reasonOf 39 = .ok (.if_icmp .gt 11, 3) := by decide +kernel
theorem dX8_reasonOf_42 : decode cX8_reasonOf 42 = .ok (.iload_n 3, 1) := by decide +kernel
theorem dX8_reasonOf_43 : decode cX8_reasonOf 43 = .ok (.iload 7, 2) := by decide +kernel
theorem dX8_reasonOf_45 : decode cX8_reasonOf 45 = .ok (.if_icmp .gt 5, 3) := by decide +kernel
theorem dX8_reasonOf_48 : decode cX8_reasonOf 48 = .ok (.iconst 0, 1) := by decide +kernel
theorem dX8_reasonOf_49 : decode cX8_reasonOf 49 = .ok (.ireturn, 1) := by decide +kernel
theorem dX8_reasonOf_50 : decode cX8_reasonOf 50 = .ok (.iload 6, 2) := by decide +kernel
theorem dX8_reasonOf_52 : decode cX8_reasonOf 52 = .ok (.iload 7, 2) := by decide +kernel
theorem dX8_reasonOf_54 : decode cX8_reasonOf 54 = .ok (.if_icmp .gt 8, 3) := by decide +kernel
theorem dX8_reasonOf_57 : decode cX8_reasonOf 57 = .ok (.bipush 7, 2) := by decide +kernel
theorem dX8_reasonOf_59 : decode cX8_reasonOf 59 = .ok (.goto 5, 3) := by decide +kernel
theorem dX8_reasonOf_62 : decode cX8_reasonOf 62 = .ok (.bipush 8, 2) := by decide +kernel
theorem dX8_reasonOf_64 : decode cX8_reasonOf 64 = .ok (.ireturn, 1) := by decide +kernel
theorem dX8_chestOfRival_0 : decode cX8_chestOfRival 0 = .ok (.iload_n 1, 1) := by decide +kernel
theorem dX8_chestOfRival_1 : decode cX8_chestOfRival 1 = .ok (.iconst 1, 1) := by decide +kernel
theorem dX8_chestOfRival_2 : decode cX8_chestOfRival 2 = .ok (.if_icmp .ne 10, 3) := by decide +kernel
theorem dX8_chestOfRival_5 : decode cX8_chestOfRival 5 = .ok (.aload_n 0, 1) := by decide +kernel
theorem dX8_chestOfRival_6 : decode cX8_chestOfRival 6 = .ok (.getfield 38, 3) := by decide +kernel
theorem dX8_chestOfRival_9 : decode cX8_chestOfRival 9 = .ok (.goto 7, 3) := by decide +kernel
theorem dX8_chestOfRival_12 : decode cX8_chestOfRival 12 = .ok (.aload_n 0, 1) := by decide +kernel
theorem dX8_chestOfRival_13 : decode cX8_chestOfRival 13 = .ok (.getfield 35, 3) := by decide +kernel
theorem dX8_chestOfRival_16 : decode cX8_chestOfRival 16 = .ok (.areturn, 1) := by decide +kernel
theorem dX8_takePremium_0 : decode cX8_takePremium 0 = .ok (.aload_n 1, 1) := by decide +kernel
theorem dX8_takePremium_1 : decode cX8_takePremium 1 = .ok (.getfield 274, 3) := by decide +kernel
theorem dX8_takePremium_4 : decode cX8_takePremium 4 = .ok (.astore_n 2, 1) := by decide +kernel
theorem dX8_takePremium_5 : decode cX8_takePremium 5 = .ok (.aload_n 1, 1) := by decide +kernel
theorem dX8_takePremium_6 : decode cX8_takePremium 6 = .ok (.getfield 503, 3) := by decide +kernel
theorem dX8_takePremium_9 : decode cX8_takePremium 9 = .ok (.aload_n 2, 1) := by decide +kernel
theorem dX8_takePremium_10 : decode cX8_takePremium 10 = .ok (.getfield 281, 3) := by decide +kernel
theorem dX8_takePremium_13 : decode cX8_takePremium 13 = .ok (.imul, 1) := by decide +kernel
theorem dX8_takePremium_14 : decode cX8_takePremium 14 = .ok (.bipush 100, 2) := by decide +kernel
theorem dX8_takePremium_16 : decode cX8_takePremium 16 = .ok (.idiv, 1) := by decide +kernel
theorem dX8_takePremium_17 : decode cX8_takePremium 17 = .ok (.istore_n 3, 1) := by decide +kernel
theorem dX8_takePremium_18 : decode cX8_takePremium 18 = .ok (.aload_n 2, 1) := by decide +kernel
theorem dX8_takePremium_19 : decode cX8_takePremium 19 = .ok (.getfield 224, 3) := by decide +kernel
theorem dX8_takePremium_22 : decode cX8_takePremium 22 = .ok (.getfield 292, 3) := by decide +kernel
end PD3
