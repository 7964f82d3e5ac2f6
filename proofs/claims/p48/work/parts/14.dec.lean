section PD4
theorem dX8_takePremium_25 : decode cX8_takePremium 25 = .ok (.aload_n 0, 1) := by decide +kernel
theorem dX8_takePremium_26 : decode cX8_takePremium 26 = .ok (.getfield 31, 3) := by decide +kernel
theorem dX8_takePremium_29 : decode cX8_takePremium 29 = .ok (.aload_n 1, 1) := by decide +kernel
theorem dX8_takePremium_30 : decode cX8_takePremium 30 = .ok (.getfield 503, 3) := by decide +kernel
theorem dX8_takePremium_33 : decode cX8_takePremium 33 = .ok (.invokevirtual 84, 3) := by decide +kernel
theorem dX8_takePremium_36 : decode cX8_takePremium 36 = .ok (.aload_n 0, 1) := by decide +kernel
theorem dX8_takePremium_37 : decode cX8_takePremium 37 = .ok (.getfield 31, 3) := by decide +kernel
theorem dX8_takePremium_40 : decode cX8_takePremium 40 = .ok (.aload_n 0, 1) := by decide +kernel
theorem dX8_takePremium_41 : decode cX8_takePremium 41 = .ok (.aload_n 2, 1) := by decide +kernel
theorem dX8_takePremium_42 : decode cX8_takePremium 42 = .ok (.getfield 293, 3) := by decide +kernel
theorem dX8_takePremium_45 : decode cX8_takePremium 45 = .ok (.invokevirtual 296, 3) := by decide +kernel
theorem dX8_takePremium_48 : decode cX8_takePremium 48 = .ok (.iload_n 3, 1) := by decide +kernel
theorem dX8_takePremium_49 : decode cX8_takePremium 49 = .ok (.invokevirtual 84, 3) := by decide +kernel
theorem dX8_takePremium_52 : decode cX8_takePremium 52 = .ok (.aload_n 0, 1) := by decide +kernel
theorem dX8_takePremium_53 : decode cX8_takePremium 53 = .ok (.dup, 1) := by decide +kernel
theorem dX8_takePremium_54 : decode cX8_takePremium 54 = .ok (.getfield 506, 3) := by decide +kernel
theorem dX8_takePremium_57 : decode cX8_takePremium 57 = .ok (.aload_n 1, 1) := by decide +kernel
theorem dX8_takePremium_58 : decode cX8_takePremium 58 = .ok (.getfield 503, 3) := by decide +kernel
theorem dX8_takePremium_61 : decode cX8_takePremium 61 = .ok (.iload_n 3, 1) := by decide +kernel
theorem dX8_takePremium_62 : decode cX8_takePremium 62 = .ok (.isub, 1) := by decide +kernel
theorem dX8_takePremium_63 : decode cX8_takePremium 63 = .ok (.iadd, 1) := by decide +kernel
theorem dX8_takePremium_64 : decode cX8_takePremium 64 = .ok (.putfield 506, 3) := by decide +kernel
theorem dX8_takePremium_67 : decode cX8_takePremium 67 = .ok (.return_, 1) := by decide +kernel
theorem dX8_payBack_0 : decode cX8_payBack 0 = .ok (.aload_n 1, 1) := by decide +kernel
theorem dX8_payBack_1 : decode cX8_payBack 1 = .ok (.getfield 288, 3) := by decide +kernel
theorem dX8_payBack_4 : decode cX8_payBack 4 = .ok (.astore_n 2, 1) := by decide +kernel
theorem dX8_payBack_5 : decode cX8_payBack 5 = .ok (.aload_n 2, 1) := by decide +kernel
theorem dX8_payBack_6 : decode cX8_payBack 6 = .ok (.ifnonnull 4, 3) := by decide +kernel
theorem dX8_payBack_9 : decode cX8_payBack 9 = .ok (.return_, 1) := by decide +kernel
theorem dX8_payBack_10 : decode cX8_payBack 10 = .ok (.aload_n 1, 1) := by decide +kernel
theorem dX8_payBack_11 : decode cX8_payBack 11 = .ok (.getfield 274, 3) := by decide +kernel
theorem dX8_payBack_14 : decode cX8_payBack 14 = .ok (.astore_n 3, 1) := by decide +kernel
theorem dX8_payBack_15 : decode cX8_payBack 15 = .ok (.aload_n 3, 1) := by decide +kernel
theorem dX8_payBack_16 : decode cX8_payBack 16 = .ok (.getfield 224, 3) := by decide +kernel
theorem dX8_payBack_19 : decode cX8_payBack 19 = .ok (.getfield 292, 3) := by decide +kernel
theorem dX8_payBack_22 : decode cX8_payBack 22 = .ok (.aload_n 0, 1) := by decide +kernel
theorem dX8_payBack_23 : decode cX8_payBack 23 = .ok (.getfield 31, 3) := by decide +kernel
theorem dX8_payBack_26 : decode cX8_payBack 26 = .ok (.aload_n 2, 1) := by decide +kernel
theorem dX8_payBack_27 : decode cX8_payBack 27 = .ok (.getfield 509, 3) := by decide +kernel
theorem dX8_payBack_30 : decode cX8_payBack 30 = .ok (.invokevirtual 84, 3) := by decide +kernel
theorem dX8_payBack_33 : decode cX8_payBack 33 = .ok (.aload_n 0, 1) := by decide +kernel
theorem dX8_payBack_34 : decode cX8_payBack 34 = .ok (.getfield 31, 3) := by decide +kernel
theorem dX8_payBack_37 : decode cX8_payBack 37 = .ok (.aload_n 0, 1) := by decide +kernel
theorem dX8_payBack_38 : decode cX8_payBack 38 = .ok (.aload_n 3, 1) := by decide +kernel
theorem dX8_payBack_39 : decode cX8_payBack 39 = .ok (.getfield 293, 3) := by decide +kernel
theorem dX8_payBack_42 : decode cX8_payBack 42 = .ok (.invokevirtual 296, 3) := by decide +kernel
theorem dX8_payBack_45 : decode cX8_payBack 45 = .ok (.aload_n 2, 1) := by decide +kernel
theorem dX8_payBack_46 : decode cX8_payBack 46 = .ok (.getfield 512, 3) := by decide +kernel
theorem dX8_payBack_49 : decode cX8_payBack 49 = .ok (.invokevirtual 84, 3) := by decide +kernel
theorem dX8_payBack_52 : decode cX8_payBack 52 = .ok (.aload_n 0, 1) := by decide +kernel
theorem dX8_payBack_53 : decode cX8_payBack 53 = .ok (.dup, 1) := by decide +kernel
theorem dX8_payBack_54 : decode cX8_payBack 54 = .ok (.getfield 300, 3) := by decide +kernel
theorem dX8_payBack_57 : decode cX8_payBack 57 = .ok (.aload_n 2, 1) := by decide +kernel
theorem dX8_payBack_58 : decode cX8_payBack 58 = .ok (.getfield 509, 3) := by decide +kernel
theorem dX8_payBack_61 : decode cX8_payBack 61 = .ok (.aload_n 2, 1) := by decide +kernel
theorem dX8_payBack_62 : decode cX8_payBack 62 = .ok (.getfield 512, 3) := by decide +kernel
theorem dX8_payBack_65 : decode cX8_payBack 65 = .ok (.isub, 1) := by decide +kernel
theorem dX8_payBack_66 : decode cX8_payBack 66 = .ok (.isub, 1) := by decide +kernel
theorem dX8_payBack_67 : decode cX8_payBack 67 = .ok (.putfield 300, 3) := by decide +kernel
theorem dX8_payBack_70 : decode cX8_payBack 70 = .ok (.return_, 1) := by decide +kernel
theorem dX8_firstToPay_0 : decode cX8_firstToPay 0 = .ok (.aconst_null, 1) := by decide +kernel
theorem dX8_firstToPay_1 : decode cX8_firstToPay 1 = .ok (.astore_n 2, 1) := by decide +kernel
theorem dX8_firstToPay_2 : decode cX8_firstToPay 2 = .ok (.iconst 0, 1) := by decide +kernel
theorem dX8_firstToPay_3 : decode cX8_firstToPay 3 = .ok (.istore_n 3, 1) := by decide +kernel
theorem dX8_firstToPay_4 : decode cX8_firstToPay 4 = .ok (.iload_n 3, 1) := by decide +kernel
theorem dX8_firstToPay_5 : decode cX8_firstToPay 5 = .ok (.aload_n 0, 1) := by decide +kernel
theorem dX8_firstToPay_6 : decode cX8_firstToPay 6 = .ok (.getfield 25, 3) := by decide +kernel
theorem dX8_firstToPay_9 : decode cX8_firstToPay 9 = .ok (.invokevirtual 89, 3) := by decide +kernel
theorem dX8_firstToPay_12 : decode cX8_firstToPay 12 = .ok (.if_icmp .ge 58, 3) := by decide +kernel
theorem dX8_firstToPay_15 : decode cX8_firstToPay 15 = .ok (.aload_n 0, 1) := by decide +kernel
theorem dX8_firstToPay_16 : decode cX8_firstToPay 16 = .ok (.getfield 25, 3) := by decide +kernel
theorem dX8_firstToPay_19 : decode cX8_firstToPay 19 = .ok (.iload_n 3, 1) := by decide +kernel
theorem dX8_firstToPay_20 : decode cX8_firstToPay 20 = .ok (.invokevirtual 306, 3) := by decide +kernel
theorem dX8_firstToPay_23 : decode cX8_firstToPay 23 = .ok (.checkcast 201, 3) := by decide +kernel
theorem dX8_firstToPay_26 : decode cX8_firstToPay 26 = .ok (.astore 4, 2) := by decide +kernel
theorem dX8_firstToPay_28 : decode cX8_firstToPay 28 = .ok (.aload 4, 2) := by decide +kernel
theorem dX8_firstToPay_30 : decode cX8_firstToPay 30 = .ok (.getfield 310, 3) := by decide +kernel
theorem dX8_firstToPay_33 : decode cX8_firstToPay 33 = .ok (.aload_n 1, 1) := by decide +kernel
theorem dX8_firstToPay_34 : decode cX8_firstToPay 34 = .ok (.if_acmp .ne 30, 3) := by decide +kernel
theorem dX8_firstToPay_37 : decode cX8_firstToPay 37 = .ok (.aload 4, 2) := by decide +kernel
theorem dX8_firstToPay_39 : decode cX8_firstToPay 39 = .ok (.invokevirtual 314, 3) := by decide +kernel
theorem dX8_firstToPay_42 : decode cX8_firstToPay 42 = .ok (.ifCond .eq 22, 3) := by decide +kernel
theorem dX8_firstToPay_45 : decode cX8_firstToPay 45 = .ok (.aload_n 2, 1) := by decide +kernel
theorem dX8_firstToPay_46 : decode cX8_firstToPay 46 = .ok (.ifnull 15, 3) := by decide +kernel
theorem dX8_firstToPay_49 : decode cX8_firstToPay 49 = .ok (.aload 4, 2) := by decide +kernel
theorem dX8_firstToPay_51 : decode cX8_firstToPay 51 = .ok (.getfield 253, 3) := by decide +kernel
theorem dX8_firstToPay_54 : decode cX8_firstToPay 54 = .ok (.aload_n 2, 1) := by decide +kernel
theorem dX8_firstToPay_55 : decode cX8_firstToPay 55 = .ok (.getfield 253, 3) := by decide +kernel
theorem dX8_firstToPay_58 : decode cX8_firstToPay 58 = .ok (.if_icmp .ge 6, 3) := by decide +kernel
theorem dX8_firstToPay_61 : decode cX8_firstToPay 61 = .ok (.aload 4, 2) := by decide +kernel
theorem dX8_firstToPay_63 : decode cX8_firstToPay 63 = .ok (.astore_n 2, 1) := by decide +kernel
theorem dX8_firstToPay_64 : decode cX8_firstToPay 64 = .ok (.iinc 3 1, 3) := by decide +kernel
theorem dX8_firstToPay_67 : decode cX8_firstToPay 67 = .ok (.goto (-63), 3) := by decide +kernel
theorem dX8_firstToPay_70 : decode cX8_firstToPay 70 = .ok (.aload_n 2, 1) := by decide +kernel
theorem dX8_firstToPay_71 : decode cX8_firstToPay 71 = .ok (.areturn, 1) := by decide +kernel
theorem dX8_settle_0 : decode cX8_settle 0 = .ok (.aload_n 1, 1) := by decide +kernel
theorem dX8_settle_1 : decode cX8_settle 1 = .ok (.getfield 274, 3) := by decide +kernel
theorem dX8_settle_4 : decode cX8_settle 4 = .ok (.getfield 224, 3) := by decide +kernel
theorem dX8_settle_7 : decode cX8_settle 7 = .ok (.astore 4, 2) := by decide +kernel
theorem dX8_settle_9 : decode cX8_settle 9 = .ok (.aload_n 1, 1) := by decide +kernel
theorem dX8_settle_10 : decode cX8_settle 10 = .ok (.getfield 288, 3) := by decide +kernel
theorem dX8_settle_13 : decode cX8_settle 13 = .ok (.astore 5, 2) := by decide +kernel
theorem dX8_settle_15 : decode cX8_settle 15 = .ok (.aload_n 1, 1) := by decide +kernel
theorem dX8_settle_16 : decode cX8_settle 16 = .ok (.dup, 1) := by decide +kernel
theorem dX8_settle_17 : decode cX8_settle 17 = .ok (.getfield 242, 3) := by decide +kernel
theorem dX8_settle_20 : decode cX8_settle 20 = .ok (.iload_n 3, 1) := by decide +kernel
theorem dX8_settle_21 : decode cX8_settle 21 = .ok (.isub, 1) := by decide +kernel
theorem dX8_settle_22 : decode cX8_settle 22 = .ok (.putfield 242, 3) := by decide +kernel
theorem dX8_settle_25 : decode cX8_settle 25 = .ok (.aload 5, 2) := by decide +kernel
theorem dX8_settle_27 : decode cX8_settle 27 = .ok (.ifnonnull 14, 3) := by decide +kernel
theorem dX8_settle_30 : decode cX8_settle 30 = .ok (.aload_n 2, 1) := by decide +kernel
theorem dX8_settle_31 : decode cX8_settle 31 = .ok (.aload 4, 2) := by decide +kernel
theorem dX8_settle_33 : decode cX8_settle 33 = .ok (.getfield 292, 3) := by decide +kernel
theorem dX8_settle_36 : decode cX8_settle 36 = .ok (.iload_n 3, 1) := by decide +kernel
theorem dX8_settle_37 : decode cX8_settle 37 = .ok (.invokevirtual 84, 3) := by decide +kernel
theorem dX8_settle_40 : decode cX8_settle 40 = .ok (.return_, 1) := by decide +kernel
theorem dX8_settle_41 : decode cX8_settle 41 = .ok (.aload 5, 2) := by decide +kernel
theorem dX8_settle_43 : decode cX8_settle 43 = .ok (.getfield 515, 3) := by decide +kernel
theorem dX8_settle_46 : decode cX8_settle 46 = .ok (.istore 6, 2) := by decide +kernel
theorem dX8_settle_48 : decode cX8_settle 48 = .ok (.aload 5, 2) := by decide +kernel
theorem dX8_settle_50 : decode cX8_settle 50 = .ok (.getfield 518, 3) := by decide +kernel
theorem dX8_settle_53 : decode cX8_settle 53 = .ok (.istore 7, 2) := by decide +kernel
theorem dX8_settle_55 : decode cX8_settle 55 = .ok (.aload 5, 2) := by decide +kernel
theorem dX8_settle_57 : decode cX8_settle 57 = .ok (.iload_n 3, 1) := by decide +kernel
theorem dX8_settle_58 : decode cX8_settle 58 = .ok (.invokevirtual 521, 3) := by decide +kernel
theorem dX8_settle_61 : decode cX8_settle 61 = .ok (.aload 5, 2) := by decide +kernel
theorem dX8_settle_63 : decode cX8_settle 63 = .ok (.getfield 515, 3) := by decide +kernel
theorem dX8_settle_66 : decode cX8_settle 66 = .ok (.iload 6, 2) := by decide +kernel
theorem dX8_settle_68 : decode cX8_settle 68 = .ok (.isub, 1) := by decide +kernel
theorem dX8_settle_69 : decode cX8_settle 69 = .ok (.istore 8, 2) := by decide +kernel
theorem dX8_settle_71 : decode cX8_settle 71 = .ok (.aload 5, 2) := by decide +kernel
theorem dX8_settle_73 : decode cX8_settle 73 = .ok (.getfield 518, 3) := by decide +kernel
theorem dX8_settle_76 : decode cX8_settle 76 = .ok (.iload 7, 2) := by decide +kernel
theorem dX8_settle_78 : decode cX8_settle 78 = .ok (.isub, 1) := by decide +kernel
theorem dX8_settle_79 : decode cX8_settle 79 = .ok (.istore 9, 2) := by decide +kernel
theorem dX8_settle_81 : decode cX8_settle 81 = .ok (.aload_n 2, 1) := by decide +kernel
theorem dX8_settle_82 : decode cX8_settle 82 = .ok (.aload_n 0, 1) := by decide +kernel
theorem dX8_settle_83 : decode cX8_settle 83 = .ok (.getfield 31, 3) := by decide +kernel
theorem dX8_settle_86 : decode cX8_settle 86 = .ok (.iload 8, 2) := by decide +kernel
theorem dX8_settle_88 : decode cX8_settle 88 = .ok (.invokevirtual 84, 3) := by decide +kernel
theorem dX8_settle_91 : decode cX8_settle 91 = .ok (.aload_n 2, 1) := by decide +kernel
theorem dX8_settle_92 : decode cX8_settle 92 = .ok (.aload_n 0, 1) := by decide +kernel
theorem dX8_settle_93 : decode cX8_settle 93 = .ok (.aload_n 1, 1) := by decide +kernel
theorem dX8_settle_94 : decode cX8_settle 94 = .ok (.getfield 274, 3) := by decide +kernel
theorem dX8_settle_97 : decode cX8_settle 97 = .ok (.getfield 293, 3) := by decide +kernel
theorem dX8_settle_100 : decode cX8_settle 100 = .ok (.invokevirtual 296, 3) := by decide +kernel
theorem dX8_settle_103 : decode cX8_settle 103 = .ok (.iload 9, 2) := by decide +kernel
theorem dX8_settle_105 : decode cX8_settle 105 = .ok (.invokevirtual 84, 3) := by decide +kernel
theorem dX8_settle_108 : decode cX8_settle 108 = .ok (.aload_n 2, 1) := by decide +kernel
theorem dX8_settle_109 : decode cX8_settle 109 = .ok (.aload 4, 2) := by decide +kernel
theorem dX8_settle_111 : decode cX8_settle 111 = .ok (.getfield 292, 3) := by decide +kernel
theorem dX8_settle_114 : decode cX8_settle 114 = .ok (.iload_n 3, 1) := by decide +kernel
theorem dX8_settle_115 : decode cX8_settle 115 = .ok (.iload 8, 2) := by decide +kernel
theorem dX8_settle_117 : decode cX8_settle 117 = .ok (.isub, 1) := by decide +kernel
theorem dX8_settle_118 : decode cX8_settle 118 = .ok (.iload 9, 2) := by decide +kernel
theorem dX8_settle_120 : decode cX8_settle 120 = .ok (.isub, 1) := by decide +kernel
theorem dX8_settle_121 : decode cX8_settle 121 = .ok (.invokevirtual 84, 3) := by decide +kernel
theorem dX8_settle_124 : decode cX8_settle 124 = .ok (.aload_n 0, 1) := by decide +kernel
theorem dX8_settle_125 : decode cX8_settle 125 = .ok (.dup, 1) := by decide +kernel
theorem dX8_settle_126 : decode cX8_settle 126 = .ok (.getfield 524, 3) := by decide +kernel
theorem dX8_settle_129 : decode cX8_settle 129 = .ok (.iload 8, 2) := by decide +kernel
theorem dX8_settle_131 : decode cX8_settle 131 = .ok (.iadd, 1) := by decide +kernel
theorem dX8_settle_132 : decode cX8_settle 132 = .ok (.putfield 524, 3) := by decide +kernel
theorem dX8_settle_135 : decode cX8_settle 135 = .ok (.return_, 1) := by decide +kernel
theorem dX8_payWhatIsDue_0 : decode cX8_payWhatIsDue 0 = .ok (.iconst 0, 1) := by decide +kernel
theorem dX8_payWhatIsDue_1 : decode cX8_payWhatIsDue 1 = .ok (.istore_n 1, 1) := by decide +kernel
theorem dX8_payWhatIsDue_2 : decode cX8_payWhatIsDue 2 = .ok (.iload_n 1, 1) := by decide +kernel
theorem dX8_payWhatIsDue_3 : decode cX8_payWhatIsDue 3 = .ok (.aload_n 0, 1) := by decide +kernel
theorem dX8_payWhatIsDue_4 : decode cX8_payWhatIsDue 4 = .ok (.getfield 25, 3) := by decide +kernel
theorem dX8_payWhatIsDue_7 : decode cX8_payWhatIsDue 7 = .ok (.invokevirtual 89, 3) := by decide +kernel
theorem dX8_payWhatIsDue_10 : decode cX8_payWhatIsDue 10 = .ok (.if_icmp .ge 74, 3) := by decide +kernel
theorem dX8_payWhatIsDue_13 : decode cX8_payWhatIsDue 13 = .ok (.aload_n 0, 1) := by decide +kernel
theorem dX8_payWhatIsDue_14 : decode cX8_payWhatIsDue 14 = .ok (.getfield 25, 3) := by decide +kernel
theorem dX8_payWhatIsDue_17 : decode cX8_payWhatIsDue 17 = .ok (.iload_n 1, 1) := by decide +kernel
theorem dX8_payWhatIsDue_18 : decode cX8_payWhatIsDue 18 = .ok (.invokevirtual 306, 3) := by decide +kernel
theorem dX8_payWhatIsDue_21 : decode cX8_payWhatIsDue 21 = .ok (.checkcast 201, 3) := by decide +kernel
theorem dX8_payWhatIsDue_24 : decode cX8_payWhatIsDue 24 = .ok (.astore_n 2, 1) := by decide +kernel
theorem dX8_payWhatIsDue_25 : decode cX8_payWhatIsDue 25 = .ok (.aload_n 2, 1) := by decide +kernel
theorem dX8_payWhatIsDue_26 : decode cX8_payWhatIsDue 26 = .ok (.getfield 253, 3) := by decide +kernel
theorem dX8_payWhatIsDue_29 : decode cX8_payWhatIsDue 29 = .ok (.aload_n 0, 1) := by decide +kernel
theorem dX8_payWhatIsDue_30 : decode cX8_payWhatIsDue 30 = .ok (.getfield 151, 3) := by decide +kernel
theorem dX8_payWhatIsDue_33 : decode cX8_payWhatIsDue 33 = .ok (.if_icmp .ne 45, 3) := by decide +kernel
theorem dX8_payWhatIsDue_36 : decode cX8_payWhatIsDue 36 = .ok (.aload_n 2, 1) := by decide +kernel
theorem dX8_payWhatIsDue_37 : decode cX8_payWhatIsDue 37 = .ok (.invokevirtual 314, 3) := by decide +kernel
theorem dX8_payWhatIsDue_40 : decode cX8_payWhatIsDue 40 = .ok (.ifCond .eq 38, 3) := by decide +kernel
theorem dX8_payWhatIsDue_43 : decode cX8_payWhatIsDue 43 = .ok (.aload_n 2, 1) := by decide +kernel
theorem dX8_payWhatIsDue_44 : decode cX8_payWhatIsDue 44 = .ok (.getfield 310, 3) := by decide +kernel
theorem dX8_payWhatIsDue_47 : decode cX8_payWhatIsDue 47 = .ok (.invokevirtual 235, 3) := by decide +kernel
theorem dX8_payWhatIsDue_50 : decode cX8_payWhatIsDue 50 = .ok (.ifCond .eq 28, 3) := by decide +kernel
theorem dX8_payWhatIsDue_53 : decode cX8_payWhatIsDue 53 = .ok (.aload_n 2, 1) := by decide +kernel
theorem dX8_payWhatIsDue_54 : decode cX8_payWhatIsDue 54 = .ok (.getfield 310, 3) := by decide +kernel
theorem dX8_payWhatIsDue_57 : decode cX8_payWhatIsDue 57 = .ok (.getfield 79, 3) := by decide +kernel
theorem dX8_payWhatIsDue_60 : decode cX8_payWhatIsDue 60 = .ok (.astore_n 3, 1) := by decide +kernel
theorem dX8_payWhatIsDue_61 : decode cX8_payWhatIsDue 61 = .ok (.aload_n 0, 1) := by decide +kernel
theorem dX8_payWhatIsDue_62 : decode cX8_payWhatIsDue 62 = .ok (.aload_n 2, 1) := by decide +kernel
theorem dX8_payWhatIsDue_63 : decode cX8_payWhatIsDue 63 = .ok (.aload_n 3, 1) := by decide +kernel
theorem dX8_payWhatIsDue_64 : decode cX8_payWhatIsDue 64 = .ok (.aload_n 2, 1) := by decide +kernel
theorem dX8_payWhatIsDue_65 : decode cX8_payWhatIsDue 65 = .ok (.getfield 242, 3) := by decide +kernel
theorem dX8_payWhatIsDue_68 : decode cX8_payWhatIsDue 68 = .ok (.aload_n 3, 1) := by decide +kernel
theorem dX8_payWhatIsDue_69 : decode cX8_payWhatIsDue 69 = .ok (.getfield 129, 3) := by decide +kernel
theorem dX8_payWhatIsDue_72 : decode cX8_payWhatIsDue 72 = .ok (.invokestatic 185, 3) := by decide +kernel
theorem dX8_payWhatIsDue_75 : decode cX8_payWhatIsDue 75 = .ok (.invokevirtual 245, 3) := by decide +kernel
theorem dX8_payWhatIsDue_78 : decode cX8_payWhatIsDue 78 = .ok (.iinc 1 1, 3) := by decide +kernel
theorem dX8_payWhatIsDue_81 : decode cX8_payWhatIsDue 81 = .ok (.goto (-79), 3) := by decide +kernel
theorem dX8_payWhatIsDue_84 : decode cX8_payWhatIsDue 84 = .ok (.return_, 1) := by decide +kernel
theorem dX8_payWhatIsPutOff_0 : decode cX8_payWhatIsPutOff 0 = .ok (.iconst 0, 1) := by decide +kernel
theorem dX8_payWhatIsPutOff_1 : decode cX8_payWhatIsPutOff 1 = .ok (.istore_n 1, 1) := by decide +kernel
theorem dX8_payWhatIsPutOff_2 : decode cX8_payWhatIsPutOff 2 = .ok (.iload_n 1, 1) := by decide +kernel
theorem dX8_payWhatIsPutOff_3 : decode cX8_payWhatIsPutOff 3 = .ok (.aload_n 0, 1) := by decide +kernel
theorem dX8_payWhatIsPutOff_4 : decode cX8_payWhatIsPutOff 4 = .ok (.getfield 25, 3) := by decide +kernel
theorem dX8_payWhatIsPutOff_7 : decode cX8_payWhatIsPutOff 7 = .ok (.invokevirtual 89, 3) := by decide +kernel
theorem dX8_payWhatIsPutOff_10 : decode cX8_payWhatIsPutOff 10 = .ok (.if_icmp .ge 87, 3) := by decide +kernel
theorem dX8_payWhatIsPutOff_13 : decode cX8_payWhatIsPutOff 13 = .ok (.aload_n 0, 1) := by decide +kernel
theorem dX8_payWhatIsPutOff_14 : decode cX8_payWhatIsPutOff 14 = .ok (.getfield 25, 3) := by decide +kernel
theorem dX8_payWhatIsPutOff_17 : decode cX8_payWhatIsPutOff 17 = .ok (.iload_n 1, 1) := by decide +kernel
theorem dX8_payWhatIsPutOff_18 : decode cX8_payWhatIsPutOff 18 = .ok (.invokevirtual 306, 3) := by decide +kernel
theorem dX8_payWhatIsPutOff_21 : decode cX8_payWhatIsPutOff 21 = .ok (.checkcast 201, 3) := by decide +kernel
theorem dX8_payWhatIsPutOff_24 : decode cX8_payWhatIsPutOff 24 = .ok (.astore_n 2, 1) := by decide +kernel
theorem dX8_payWhatIsPutOff_25 : decode cX8_payWhatIsPutOff 25 = .ok (.aload_n 2, 1) := by decide +kernel
theorem dX8_payWhatIsPutOff_26 : decode cX8_payWhatIsPutOff 26 = .ok (.getfield 527, 3) := by decide +kernel
theorem dX8_payWhatIsPutOff_29 : decode cX8_payWhatIsPutOff 29 = .ok (.astore_n 3, 1) := by decide +kernel
theorem dX8_payWhatIsPutOff_30 : decode cX8_payWhatIsPutOff 30 = .ok (.aload_n 3, 1) := by decide +kernel
theorem dX8_payWhatIsPutOff_31 : decode cX8_payWhatIsPutOff 31 = .ok (.ifnull 21, 3) := by decide +kernel
theorem dX8_payWhatIsPutOff_34 : decode cX8_payWhatIsPutOff 34 = .ok (.aload_n 2, 1) := by decide +kernel
theorem dX8_payWhatIsPutOff_35 : decode cX8_payWhatIsPutOff 35 = .ok (.getfield 303, 3) := by decide +kernel
theorem dX8_payWhatIsPutOff_38 : decode cX8_payWhatIsPutOff 38 = .ok (.ifCond .ne 14, 3) := by decide +kernel
theorem dX8_payWhatIsPutOff_41 : decode cX8_payWhatIsPutOff 41 = .ok (.aload_n 2, 1) := by decide +kernel
theorem dX8_payWhatIsPutOff_42 : decode cX8_payWhatIsPutOff 42 = .ok (.getfield 242, 3) := by decide +kernel
theorem dX8_payWhatIsPutOff_45 : decode cX8_payWhatIsPutOff 45 = .ok (.ifCond .le 7, 3) := by decide +kernel
theorem dX8_payWhatIsPutOff_48 : decode cX8_payWhatIsPutOff 48 = .ok (.iconst 1, 1) := by decide +kernel
theorem dX8_payWhatIsPutOff_49 : decode cX8_payWhatIsPutOff 49 = .ok (.goto 4, 3) := by decide +kernel
theorem dX8_payWhatIsPutOff_52 : decode cX8_payWhatIsPutOff 52 = .ok (.iconst 0, 1) := by decide +kernel
theorem dX8_payWhatIsPutOff_53 : decode cX8_payWhatIsPutOff 53 = .ok (.istore 4, 2) := by decide +kernel
theorem dX8_payWhatIsPutOff_55 : decode cX8_payWhatIsPutOff 55 = .ok (.iload 4, 2) := by decide +kernel
theorem dX8_payWhatIsPutOff_57 : decode cX8_payWhatIsPutOff 57 = .ok (.ifCond .eq 34, 3) := by decide +kernel
theorem dX8_payWhatIsPutOff_60 : decode cX8_payWhatIsPutOff 60 = .ok (.aload_n 2, 1) := by decide +kernel
theorem dX8_payWhatIsPutOff_61 : decode cX8_payWhatIsPutOff 61 = .ok (.getfield 310, 3) := by decide +kernel
theorem dX8_payWhatIsPutOff_64 : decode cX8_payWhatIsPutOff 64 = .ok (.getfield 206, 3) := by decide +kernel
theorem dX8_payWhatIsPutOff_67 : decode cX8_payWhatIsPutOff 67 = .ok (.getfield 120, 3) := by decide +kernel
theorem dX8_payWhatIsPutOff_70 : decode cX8_payWhatIsPutOff 70 = .ok (.iconst (-1), 1) := by decide +kernel
theorem dX8_payWhatIsPutOff_71 : decode cX8_payWhatIsPutOff 71 = .ok (.if_icmp .ne 20, 3) := by decide +kernel
theorem dX8_payWhatIsPutOff_74 : decode cX8_payWhatIsPutOff 74 = .ok (.aload_n 0, 1) := by decide +kernel
theorem dX8_payWhatIsPutOff_75 : decode cX8_payWhatIsPutOff 75 = .ok (.aload_n 2, 1) := by decide +kernel
theorem dX8_payWhatIsPutOff_76 : decode cX8_payWhatIsPutOff 76 = .ok (.aload_n 0, 1) := by decide +kernel
theorem dX8_payWhatIsPutOff_77 : decode cX8_payWhatIsPutOff 77 = .ok (.getfield 41, 3) := by decide +kernel
theorem dX8_payWhatIsPutOff_80 : decode cX8_payWhatIsPutOff 80 = .ok (.aload_n 3, 1) := by decide +kernel
theorem dX8_payWhatIsPutOff_81 : decode cX8_payWhatIsPutOff 81 = .ok (.aload_n 2, 1) := by decide +kernel
theorem dX8_payWhatIsPutOff_82 : decode cX8_payWhatIsPutOff 82 = .ok (.getfield 242, 3) := by decide +kernel
theorem dX8_payWhatIsPutOff_85 : decode cX8_payWhatIsPutOff 85 = .ok (.invokevirtual 531, 3) := by decide +kernel
theorem dX8_payWhatIsPutOff_88 : decode cX8_payWhatIsPutOff 88 = .ok (.invokevirtual 245, 3) := by decide +kernel
theorem dX8_payWhatIsPutOff_91 : decode cX8_payWhatIsPutOff 91 = .ok (.iinc 1 1, 3) := by decide +kernel
theorem dX8_payWhatIsPutOff_94 : decode cX8_payWhatIsPutOff 94 = .ok (.goto (-92), 3) := by decide +kernel
theorem dX8_payWhatIsPutOff_97 : decode cX8_payWhatIsPutOff 97 = .ok (.return_, 1) := by decide +kernel
theorem dX8_balance_0 : decode cX8_balance 0 = .ok (.aload_n 0, 1) := by decide +kernel
theorem dX8_balance_1 : decode cX8_balance 1 = .ok (.getfield 506, 3) := by decide +kernel
theorem dX8_balance_4 : decode cX8_balance 4 = .ok (.aload_n 0, 1) := by decide +kernel
theorem dX8_balance_5 : decode cX8_balance 5 = .ok (.getfield 524, 3) := by decide +kernel
theorem dX8_balance_8 : decode cX8_balance 8 = .ok (.iadd, 1) := by decide +kernel
theorem dX8_balance_9 : decode cX8_balance 9 = .ok (.aload_n 0, 1) := by decide +kernel
theorem dX8_balance_10 : decode cX8_balance 10 = .ok (.getfield 300, 3) := by decide +kernel
theorem dX8_balance_13 : decode cX8_balance 13 = .ok (.isub, 1) := by decide +kernel
theorem dX8_balance_14 : decode cX8_balance 14 = .ok (.ireturn, 1) := by decide +kernel
theorem dX8_areChestsSound_0 : decode cX8_areChestsSound 0 = .ok (.aload_n 0, 1) := by decide +kernel
theorem dX8_areChestsSound_1 : decode cX8_areChestsSound 1 = .ok (.getfield 31, 3) := by decide +kernel
theorem dX8_areChestsSound_4 : decode cX8_areChestsSound 4 = .ok (.getfield 129, 3) := by decide +kernel
theorem dX8_areChestsSound_7 : decode cX8_areChestsSound 7 = .ok (.aload_n 0, 1) := by decide +kernel
theorem dX8_areChestsSound_8 : decode cX8_areChestsSound 8 = .ok (.getfield 35, 3) := by decide +kernel
theorem dX8_areChestsSound_11 : decode cX8_areChestsSound 11 = .ok (.getfield 129, 3) := by decide +kernel
theorem dX8_areChestsSound_14 : decode cX8_areChestsSound 14 = .ok (.iadd, 1) := by decide +kernel
theorem dX8_areChestsSound_15 : decode cX8_areChestsSound 15 = .ok (.aload_n 0, 1) := by decide +kernel
theorem dX8_areChestsSound_16 : decode cX8_areChestsSound 16 = .ok (.getfield 38, 3) := by decide +kernel
theorem dX8_areChestsSound_19 : decode cX8_areChestsSound 19 = .ok (.getfield 129, 3) := by decide +kernel
theorem dX8_areChestsSound_22 : decode cX8_areChestsSound 22 = .ok (.iadd, 1) := by decide +kernel
theorem dX8_areChestsSound_23 : decode cX8_areChestsSound 23 = .ok (.aload_n 0, 1) := by decide +kernel
theorem dX8_areChestsSound_24 : decode cX8_areChestsSound 24 = .ok (.getfield 41, 3) := by decide +kernel
theorem dX8_areChestsSound_27 : decode cX8_areChestsSound 27 = .ok (.getfield 129, 3) := by decide +kernel
theorem dX8_areChestsSound_30 : decode cX8_areChestsSound 30 = .ok (.iadd, 1) := by decide +kernel
theorem dX8_areChestsSound_31 : decode cX8_areChestsSound 31 = .ok (.istore_n 1, 1) := by decide +kernel
theorem dX8_areChestsSound_32 : decode cX8_areChestsSound 32 = .ok (.iconst 0, 1) := by decide +kernel
theorem dX8_areChestsSound_33 : decode cX8_areChestsSound 33 = .ok (.istore_n 2, 1) := by decide +kernel
theorem dX8_areChestsSound_34 : decode cX8_areChestsSound 34 = .ok (.iload_n 2, 1) := by decide +kernel
theorem dX8_areChestsSound_35 : decode cX8_areChestsSound 35 = .ok (.aload_n 0, 1) := by decide +kernel
theorem dX8_areChestsSound_36 : decode cX8_areChestsSound 36 = .ok (.getfield 19, 3) := by decide +kernel
theorem dX8_areChestsSound_39 : decode cX8_areChestsSound 39 = .ok (.invokevirtual 89, 3) := by decide +kernel
theorem dX8_areChestsSound_42 : decode cX8_areChestsSound 42 = .ok (.if_icmp .ge 29, 3) := by decide +kernel
theorem dX8_areChestsSound_45 : decode cX8_areChestsSound 45 = .ok (.iload_n 1, 1) := by decide +kernel
theorem dX8_areChestsSound_46 : decode cX8_areChestsSound 46 = .ok (.aload_n 0, 1) := by decide +kernel
theorem dX8_areChestsSound_47 : decode cX8_areChestsSound 47 = .ok (.getfield 19, 3) := by decide +kernel
theorem dX8_areChestsSound_50 : decode cX8_areChestsSound 50 = .ok (.iload_n 2, 1) := by decide +kernel
theorem dX8_areChestsSound_51 : decode cX8_areChestsSound 51 = .ok (.invokevirtual 306, 3) := by decide +kernel
theorem dX8_areChestsSound_54 : decode cX8_areChestsSound 54 = .ok (.checkcast 139, 3) := by decide +kernel
theorem dX8_areChestsSound_57 : decode cX8_areChestsSound 57 = .ok (.getfield 292, 3) := by decide +kernel
theorem dX8_areChestsSound_60 : decode cX8_areChestsSound 60 = .ok (.getfield 129, 3) := by decide +kernel
theorem dX8_areChestsSound_63 : decode cX8_areChestsSound 63 = .ok (.iadd, 1) := by decide +kernel
theorem dX8_areChestsSound_64 : decode cX8_areChestsSound 64 = .ok (.istore_n 1, 1) := by decide +kernel
theorem dX8_areChestsSound_65 : decode cX8_areChestsSound 65 = .ok (.iinc 2 1, 3) := by decide +kernel
theorem dX8_areChestsSound_68 : decode cX8_areChestsSound 68 = .ok (.goto (-34), 3) := by decide +kernel
theorem dX8_areChestsSound_71 : decode cX8_areChestsSound 71 = .ok (.iconst 0, 1) := by decide +kernel
theorem dX8_areChestsSound_72 : decode cX8_areChestsSound 72 = .ok (.istore_n 2, 1) := by decide +kernel
theorem dX8_areChestsSound_73 : decode cX8_areChestsSound 73 = .ok (.iload_n 2, 1) := by decide +kernel
theorem dX8_areChestsSound_74 : decode cX8_areChestsSound 74 = .ok (.aload_n 0, 1) := by decide +kernel
theorem dX8_areChestsSound_75 : decode cX8_areChestsSound 75 = .ok (.getfield 16, 3) := by decide +kernel
theorem dX8_areChestsSound_78 : decode cX8_areChestsSound 78 = .ok (.invokevirtual 89, 3) := by decide +kernel
theorem dX8_areChestsSound_81 : decode cX8_areChestsSound 81 = .ok (.if_icmp .ge 37, 3) := by decide +kernel
theorem dX8_areChestsSound_84 : decode cX8_areChestsSound 84 = .ok (.aload_n 0, 1) := by decide +kernel
theorem dX8_areChestsSound_85 : decode cX8_areChestsSound 85 = .ok (.getfield 16, 3) := by decide +kernel
theorem dX8_areChestsSound_88 : decode cX8_areChestsSound 88 = .ok (.iload_n 2, 1) := by decide +kernel
theorem dX8_areChestsSound_89 : decode cX8_areChestsSound 89 = .ok (.invokevirtual 306, 3) := by decide +kernel
theorem dX8_areChestsSound_92 : decode cX8_areChestsSound 92 = .ok (.checkcast 80, 3) := by decide +kernel
theorem dX8_areChestsSound_95 : decode cX8_areChestsSound 95 = .ok (.getfield 79, 3) := by decide +kernel
theorem dX8_areChestsSound_98 : decode cX8_areChestsSound 98 = .ok (.getfield 129, 3) := by decide +kernel
theorem dX8_areChestsSound_101 : decode cX8_areChestsSound 101 = .ok (.istore_n 3, 1) := by decide +kernel
theorem dX8_areChestsSound_102 : decode cX8_areChestsSound 102 = .ok (.iload_n 3, 1) := by decide +kernel
theorem dX8_areChestsSound_103 : decode cX8_areChestsSound 103 = .ok (.ifCond .ge 5, 3) := by decide +kernel
theorem dX8_areChestsSound_106 : decode cX8_areChestsSound 106 = .ok (.iconst 0, 1) := by decide +kernel
theorem dX8_areChestsSound_107 : decode cX8_areChestsSound 107 = .ok (.ireturn, 1) := by decide +kernel
theorem dX8_areChestsSound_108 : decode cX8_areChestsSound 108 = .ok (.iload_n 1, 1) := by decide +kernel
theorem dX8_areChestsSound_109 : decode cX8_areChestsSound 109 = .ok (.iload_n 3, 1) := by decide +kernel
theorem dX8_areChestsSound_110 : decode cX8_areChestsSound 110 = .ok (.iadd, 1) := by decide +kernel
theorem dX8_areChestsSound_111 : decode cX8_areChestsSound 111 = .ok (.istore_n 1, 1) := by decide +kernel
theorem dX8_areChestsSound_112 : decode cX8_areChestsSound 112 = .ok (.iinc 2 1, 3) := by decide +kernel
theorem dX8_areChestsSound_115 : decode cX8_areChestsSound 115 = .ok (.goto (-42), 3) := by decide +kernel
theorem dX8_areChestsSound_118 : decode cX8_areChestsSound 118 = .ok (.iload_n 1, 1) := by decide +kernel
theorem dX8_areChestsSound_119 : decode cX8_areChestsSound 119 = .ok (.ifCond .ne 7, 3) := by decide +kernel
theorem dX8_areChestsSound_122 : decode cX8_areChestsSound 122 = .ok (.iconst 1, 1) := by decide +kernel
theorem dX8_areChestsSound_123 : decode cX8_areChestsSound 123 = .ok (.goto 4, 3) := by decide +kernel
theorem dX8_areChestsSound_126 : decode cX8_areChestsSound 126 = .ok (.iconst 0, 1) := by decide +kernel
theorem dX8_areChestsSound_127 : decode cX8_areChestsSound 127 = .ok (.ireturn, 1) := by decide +kernel
theorem dX8_reachedFrom_0 : decode cX8_reachedFrom 0 = .ok (.iload_n 1, 1) := by decide +kernel
theorem dX8_reachedFrom_1 : decode cX8_reachedFrom 1 = .ok (.istore_n 2, 1) := by decide +kernel
theorem dX8_reachedFrom_2 : decode cX8_reachedFrom 2 = .ok (.iconst 0, 1) := by decide +kernel
theorem dX8_reachedFrom_3 : decode cX8_reachedFrom 3 = .ok (.istore_n 3, 1) := by decide +kernel
theorem dX8_reachedFrom_4 : decode cX8_reachedFrom 4 = .ok (.iconst 0, 1) := by decide +kernel
theorem dX8_reachedFrom_5 : decode cX8_reachedFrom 5 = .ok (.istore 4, 2) := by decide +kernel
theorem dX8_reachedFrom_7 : decode cX8_reachedFrom 7 = .ok (.iload 4, 2) := by decide +kernel
theorem dX8_reachedFrom_9 : decode cX8_reachedFrom 9 = .ok (.aload_n 0, 1) := by decide +kernel
theorem dX8_reachedFrom_10 : decode cX8_reachedFrom 10 = .ok (.getfield 19, 3) := by decide +kernel
theorem dX8_reachedFrom_13 : decode cX8_reachedFrom 13 = .ok (.invokevirtual 89, 3) := by decide +kernel
theorem dX8_reachedFrom_16 : decode cX8_reachedFrom 16 = .ok (.if_icmp .ge 69, 3) := by decide +kernel
theorem dX8_reachedFrom_19 : decode cX8_reachedFrom 19 = .ok (.iconst 0, 1) := by decide +kernel
theorem dX8_reachedFrom_20 : decode cX8_reachedFrom 20 = .ok (.istore 5, 2) := by decide +kernel
theorem dX8_reachedFrom_22 : decode cX8_reachedFrom 22 = .ok (.iload 5, 2) := by decide +kernel
theorem dX8_reachedFrom_24 : decode cX8_reachedFrom 24 = .ok (.aload_n 0, 1) := by decide +kernel
theorem dX8_reachedFrom_25 : decode cX8_reachedFrom 25 = .ok (.getfield 19, 3) := by decide +kernel
theorem dX8_reachedFrom_28 : decode cX8_reachedFrom 28 = .ok (.invokevirtual 89, 3) := by decide +kernel
theorem dX8_reachedFrom_31 : decode cX8_reachedFrom 31 = .ok (.if_icmp .ge 48, 3) := by decide +kernel
theorem dX8_reachedFrom_34 : decode cX8_reachedFrom 34 = .ok (.aload_n 0, 1) := by decide +kernel
theorem dX8_reachedFrom_35 : decode cX8_reachedFrom 35 = .ok (.getfield 19, 3) := by decide +kernel
theorem dX8_reachedFrom_38 : decode cX8_reachedFrom 38 = .ok (.iload 5, 2) := by decide +kernel
theorem dX8_reachedFrom_40 : decode cX8_reachedFrom 40 = .ok (.invokevirtual 306, 3) := by decide +kernel
theorem dX8_reachedFrom_43 : decode cX8_reachedFrom 43 = .ok (.checkcast 139, 3) := by decide +kernel
theorem dX8_reachedFrom_46 : decode cX8_reachedFrom 46 = .ok (.astore 6, 2) := by decide +kernel
theorem dX8_reachedFrom_48 : decode cX8_reachedFrom 48 = .ok (.aload 6, 2) := by decide +kernel
theorem dX8_reachedFrom_50 : decode cX8_reachedFrom 50 = .ok (.invokevirtual 536, 3) := by decide +kernel
theorem dX8_reachedFrom_53 : decode cX8_reachedFrom 53 = .ok (.iload_n 2, 1) := by decide +kernel
theorem dX8_reachedFrom_54 : decode cX8_reachedFrom 54 = .ok (.iand, 1) := by decide +kernel
theorem dX8_reachedFrom_55 : decode cX8_reachedFrom 55 = .ok (.ifCond .eq 18, 3) := by decide +kernel
theorem dX8_reachedFrom_58 : decode cX8_reachedFrom 58 = .ok (.iload_n 3, 1) := by decide +kernel
theorem dX8_reachedFrom_59 : decode cX8_reachedFrom 59 = .ok (.iconst 1, 1) := by decide +kernel
theorem dX8_reachedFrom_60 : decode cX8_reachedFrom 60 = .ok (.iload 5, 2) := by decide +kernel
theorem dX8_reachedFrom_62 : decode cX8_reachedFrom 62 = .ok (.ishl, 1) := by decide +kernel
theorem dX8_reachedFrom_63 : decode cX8_reachedFrom 63 = .ok (.ior, 1) := by decide +kernel
theorem dX8_reachedFrom_64 : decode cX8_reachedFrom 64 = .ok (.istore_n 3, 1) := by decide +kernel
theorem dX8_reachedFrom_65 : decode cX8_reachedFrom 65 = .ok (.iload_n 2, 1) := by decide +kernel
theorem dX8_reachedFrom_66 : decode cX8_reachedFrom 66 = .ok (.aload 6, 2) := by decide +kernel
theorem dX8_reachedFrom_68 : decode cX8_reachedFrom 68 = .ok (.getfield 228, 3) := by decide +kernel
theorem dX8_reachedFrom_71 : decode cX8_reachedFrom 71 = .ok (.ior, 1) := by decide +kernel
theorem dX8_reachedFrom_72 : decode cX8_reachedFrom 72 = .ok (.istore_n 2, 1) := by decide +kernel
theorem dX8_reachedFrom_73 : decode cX8_reachedFrom 73 = .ok (.iinc 5 1, 3) := by decide +kernel
theorem dX8_reachedFrom_76 : decode cX8_reachedFrom 76 = .ok (.goto (-54), 3) := by decide +kernel
theorem dX8_reachedFrom_79 : decode cX8_reachedFrom 79 = .ok (.iinc 4 1, 3) := by decide +kernel
theorem dX8_reachedFrom_82 : decode cX8_reachedFrom 82 = .ok (.goto (-75), 3) := by decide +kernel
theorem dX8_reachedFrom_85 : decode cX8_reachedFrom 85 = .ok (.iload_n 3, 1) := by decide +kernel
theorem dX8_reachedFrom_86 : decode cX8_reachedFrom 86 = .ok (.ireturn, 1) := by decide +kernel
theorem dX8_isInCircle_0 : decode cX8_isInCircle 0 = .ok (.aload_n 0, 1) := by decide +kernel
theorem dX8_isInCircle_1 : decode cX8_isInCircle 1 = .ok (.aload_n 1, 1) := by decide +kernel
theorem dX8_isInCircle_2 : decode cX8_isInCircle 2 = .ok (.getfield 228, 3) := by decide +kernel
theorem dX8_isInCircle_5 : decode cX8_isInCircle 5 = .ok (.invokevirtual 539, 3) := by decide +kernel
theorem dX8_isInCircle_8 : decode cX8_isInCircle 8 = .ok (.aload_n 1, 1) := by decide +kernel
theorem dX8_isInCircle_9 : decode cX8_isInCircle 9 = .ok (.getfield 138, 3) := by decide +kernel
theorem dX8_isInCircle_12 : decode cX8_isInCircle 12 = .ok (.ishr, 1) := by decide +kernel
theorem dX8_isInCircle_13 : decode cX8_isInCircle 13 = .ok (.iconst 1, 1) := by decide +kernel
theorem dX8_isInCircle_14 : decode cX8_isInCircle 14 = .ok (.iand, 1) := by decide +kernel
theorem dX8_isInCircle_15 : decode cX8_isInCircle 15 = .ok (.iconst 1, 1) := by decide +kernel
theorem dX8_isInCircle_16 : decode cX8_isInCircle 16 = .ok (.if_icmp .ne 7, 3) := by decide +kernel
theorem dX8_isInCircle_19 : decode cX8_isInCircle 19 = .ok (.iconst 1, 1) := by decide +kernel
theorem dX8_isInCircle_20 : decode cX8_isInCircle 20 = .ok (.goto 4, 3) := by decide +kernel
theorem dX8_isInCircle_23 : decode cX8_isInCircle 23 = .ok (.iconst 0, 1) := by decide +kernel
theorem dX8_isInCircle_24 : decode cX8_isInCircle 24 = .ok (.ireturn, 1) := by decide +kernel
theorem dX8_isSuspect_0 : decode cX8_isSuspect 0 = .ok (.aload_n 0, 1) := by decide +kernel
theorem dX8_isSuspect_1 : decode cX8_isSuspect 1 = .ok (.iconst 1, 1) := by decide +kernel
theorem dX8_isSuspect_2 : decode cX8_isSuspect 2 = .ok (.aload_n 1, 1) := by decide +kernel
theorem dX8_isSuspect_3 : decode cX8_isSuspect 3 = .ok (.getfield 310, 3) := by decide +kernel
theorem dX8_isSuspect_6 : decode cX8_isSuspect 6 = .ok (.getfield 123, 3) := by decide +kernel
theorem dX8_isSuspect_9 : decode cX8_isSuspect 9 = .ok (.ishl, 1) := by decide +kernel
theorem dX8_isSuspect_10 : decode cX8_isSuspect 10 = .ok (.invokevirtual 539, 3) := by decide +kernel
theorem dX8_isSuspect_13 : decode cX8_isSuspect 13 = .ok (.istore_n 2, 1) := by decide +kernel
theorem dX8_isSuspect_14 : decode cX8_isSuspect 14 = .ok (.iload_n 2, 1) := by decide +kernel
theorem dX8_isSuspect_15 : decode cX8_isSuspect 15 = .ok (.aload_n 1, 1) := by decide +kernel
theorem dX8_isSuspect_16 : decode cX8_isSuspect 16 = .ok (.getfield 274, 3) := by decide +kernel
theorem dX8_isSuspect_19 : decode cX8_isSuspect 19 = .ok (.getfield 224, 3) := by decide +kernel
theorem dX8_isSuspect_22 : decode cX8_isSuspect 22 = .ok (.getfield 138, 3) := by decide +kernel
theorem dX8_isSuspect_25 : decode cX8_isSuspect 25 = .ok (.ishr, 1) := by decide +kernel
theorem dX8_isSuspect_26 : decode cX8_isSuspect 26 = .ok (.iconst 1, 1) := by decide +kernel
theorem dX8_isSuspect_27 : decode cX8_isSuspect 27 = .ok (.iand, 1) := by decide +kernel
theorem dX8_isSuspect_28 : decode cX8_isSuspect 28 = .ok (.iconst 1, 1) := by decide +kernel
theorem dX8_isSuspect_29 : decode cX8_isSuspect 29 = .ok (.if_icmp .ne 7, 3) := by decide +kernel
theorem dX8_isSuspect_32 : decode cX8_isSuspect 32 = .ok (.iconst 1, 1) := by decide +kernel
theorem dX8_isSuspect_33 : decode cX8_isSuspect 33 = .ok (.goto 4, 3) := by decide +kernel
theorem dX8_isSuspect_36 : decode cX8_isSuspect 36 = .ok (.iconst 0, 1) := by decide +kernel
theorem dX8_isSuspect_37 : decode cX8_isSuspect 37 = .ok (.ireturn, 1) := by decide +kernel
theorem dX8_countOfSuspect_0 : decode cX8_countOfSuspect 0 = .ok (.iconst 0, 1) := by decide +kernel
theorem dX8_countOfSuspect_1 : decode cX8_countOfSuspect 1 = .ok (.istore_n 1, 1) := by decide +kernel
theorem dX8_countOfSuspect_2 : decode cX8_countOfSuspect 2 = .ok (.iconst 0, 1) := by decide +kernel
theorem dX8_countOfSuspect_3 : decode cX8_countOfSuspect 3 = .ok (.istore_n 2, 1) := by decide +kernel
theorem dX8_countOfSuspect_4 : decode cX8_countOfSuspect 4 = .ok (.iload_n 2, 1) := by decide +kernel
theorem dX8_countOfSuspect_5 : decode cX8_countOfSuspect 5 = .ok (.aload_n 0, 1) := by decide +kernel
theorem dX8_countOfSuspect_6 : decode cX8_countOfSuspect 6 = .ok (.getfield 25, 3) := by decide +kernel
theorem dX8_countOfSuspect_9 : decode cX8_countOfSuspect 9 = .ok (.invokevirtual 89, 3) := by decide +kernel
theorem dX8_countOfSuspect_12 : decode cX8_countOfSuspect 12 = .ok (.if_icmp .ge 30, 3) := by decide +kernel
theorem dX8_countOfSuspect_15 : decode cX8_countOfSuspect 15 = .ok (.aload_n 0, 1) := by decide +kernel
theorem dX8_countOfSuspect_16 : decode cX8_countOfSuspect 16 = .ok (.aload_n 0, 1) := by decide +kernel
theorem dX8_countOfSuspect_17 : decode cX8_countOfSuspect 17 = .ok (.getfield 25, 3) := by decide +kernel
theorem dX8_countOfSuspect_20 : decode cX8_countOfSuspect 20 = .ok (.iload_n 2, 1) := by decide +kernel
theorem dX8_countOfSuspect_21 : decode cX8_countOfSuspect 21 = .ok (.invokevirtual 306, 3) := by decide +kernel
theorem dX8_countOfSuspect_24 : decode cX8_countOfSuspect 24 = .ok (.checkcast 201, 3) := by decide +kernel
theorem dX8_countOfSuspect_27 : decode cX8_countOfSuspect 27 = .ok (.invokevirtual 542, 3) := by decide +kernel
theorem dX8_countOfSuspect_30 : decode cX8_countOfSuspect 30 = .ok (.ifCond .eq 6, 3) := by decide +kernel
theorem dX8_countOfSuspect_33 : decode cX8_countOfSuspect 33 = .ok (.iinc 1 1, 3) := by decide +kernel
theorem dX8_countOfSuspect_36 : decode cX8_countOfSuspect 36 = .ok (.iinc 2 1, 3) := by decide +kernel
theorem dX8_countOfSuspect_39 : decode cX8_countOfSuspect 39 = .ok (.goto (-35), 3) := by decide +kernel
theorem dX8_countOfSuspect_42 : decode cX8_countOfSuspect 42 = .ok (.iload_n 1, 1) := by decide +kernel
theorem dX8_countOfSuspect_43 : decode cX8_countOfSuspect 43 = .ok (.ireturn, 1) := by decide +kernel
theorem dX8_sumOfSet_0 : decode cX8_sumOfSet 0 = .ok (.iconst 0, 1) := by decide +kernel
theorem dX8_sumOfSet_1 : decode cX8_sumOfSet 1 = .ok (.istore_n 2, 1) := by decide +kernel
theorem dX8_sumOfSet_2 : decode cX8_sumOfSet 2 = .ok (.iconst 0, 1) := by decide +kernel
theorem dX8_sumOfSet_3 : decode cX8_sumOfSet 3 = .ok (.istore_n 3, 1) := by decide +kernel
theorem dX8_sumOfSet_4 : decode cX8_sumOfSet 4 = .ok (.iload_n 3, 1) := by decide +kernel
theorem dX8_sumOfSet_5 : decode cX8_sumOfSet 5 = .ok (.aload_n 0, 1) := by decide +kernel
theorem dX8_sumOfSet_6 : decode cX8_sumOfSet 6 = .ok (.arraylength, 1) := by decide +kernel
theorem dX8_sumOfSet_7 : decode cX8_sumOfSet 7 = .ok (.if_icmp .ge 24, 3) := by decide +kernel
theorem dX8_sumOfSet_10 : decode cX8_sumOfSet 10 = .ok (.iload_n 1, 1) := by decide +kernel
theorem dX8_sumOfSet_11 : decode cX8_sumOfSet 11 = .ok (.iload_n 3, 1) := by decide +kernel
theorem dX8_sumOfSet_12 : decode cX8_sumOfSet 12 = .ok (.ishr, 1) := by decide +kernel
theorem dX8_sumOfSet_13 : decode cX8_sumOfSet 13 = .ok (.iconst 1, 1) := by decide +kernel
theorem dX8_sumOfSet_14 : decode cX8_sumOfSet 14 = .ok (.iand, 1) := by decide +kernel
theorem dX8_sumOfSet_15 : decode cX8_sumOfSet 15 = .ok (.iconst 1, 1) := by decide +kernel
theorem dX8_sumOfSet_16 : decode cX8_sumOfSet 16 = .ok (.if_icmp .ne 9, 3) := by decide +kernel
theorem dX8_sumOfSet_19 : decode cX8_sumOfSet 19 = .ok (.iload_n 2, 1) := by decide +kernel
theorem dX8_sumOfSet_20 : decode cX8_sumOfSet 20 = .ok (.aload_n 0, 1) := by decide +kernel
theorem dX8_sumOfSet_21 : decode cX8_sumOfSet 21 = .ok (.iload_n 3, 1) := by decide +kernel
theorem dX8_sumOfSet_22 : decode cX8_sumOfSet 22 = .ok (.iaload, 1) := by decide +kernel
theorem dX8_sumOfSet_23 : decode cX8_sumOfSet 23 = .ok (.iadd, 1) := by decide +kernel
theorem dX8_sumOfSet_24 : decode cX8_sumOfSet 24 = .ok (.istore_n 2, 1) := by decide +kernel
theorem dX8_sumOfSet_25 : decode cX8_sumOfSet 25 = .ok (.iinc 3 1, 3) := by decide +kernel
theorem dX8_sumOfSet_28 : decode cX8_sumOfSet 28 = .ok (.goto (-24), 3) := by decide +kernel
theorem dX8_sumOfSet_31 : decode cX8_sumOfSet 31 = .ok (.iload_n 2, 1) := by decide +kernel
theorem dX8_sumOfSet_32 : decode cX8_sumOfSet 32 = .ok (.ireturn, 1) := by decide +kernel
theorem dX8_chanceOfSet_0 : decode cX8_chanceOfSet 0 = .ok (.dconst 1, 1) := by decide +kernel
theorem dX8_chanceOfSet_1 : decode cX8_chanceOfSet 1 = .ok (.dstore_n 2, 1) := by decide +kernel
theorem dX8_chanceOfSet_2 : decode cX8_chanceOfSet 2 = .ok (.iconst 0, 1) := by decide +kernel
theorem dX8_chanceOfSet_3 : decode cX8_chanceOfSet 3 = .ok (.istore 4, 2) := by decide +kernel
theorem dX8_chanceOfSet_5 : decode cX8_chanceOfSet 5 = .ok (.iload 4, 2) := by decide +kernel
theorem dX8_chanceOfSet_7 : decode cX8_chanceOfSet 7 = .ok (.aload_n 0, 1) := by decide +kernel
theorem dX8_chanceOfSet_8 : decode cX8_chanceOfSet 8 = .ok (.getfield 10, 3) := by decide +kernel
theorem dX8_chanceOfSet_11 : decode cX8_chanceOfSet 11 = .ok (.invokevirtual 89, 3) := by decide +kernel
theorem dX8_chanceOfSet_14 : decode cX8_chanceOfSet 14 = .ok (.if_icmp .ge 48, 3) := by decide +kernel
theorem dX8_chanceOfSet_17 : decode cX8_chanceOfSet 17 = .ok (.aload_n 0, 1) := by decide +kernel
theorem dX8_chanceOfSet_18 : decode cX8_chanceOfSet 18 = .ok (.getfield 10, 3) := by decide +kernel
theorem dX8_chanceOfSet_21 : decode cX8_chanceOfSet 21 = .ok (.iload 4, 2) := by decide +kernel
theorem dX8_chanceOfSet_23 : decode cX8_chanceOfSet 23 = .ok (.invokevirtual 306, 3) := by decide +kernel
theorem dX8_chanceOfSet_26 : decode cX8_chanceOfSet 26 = .ok (.checkcast 94, 3) := by decide +kernel
theorem dX8_chanceOfSet_29 : decode cX8_chanceOfSet 29 = .ok (.invokevirtual 381, 3) := by decide +kernel
theorem dX8_chanceOfSet_32 : decode cX8_chanceOfSet 32 = .ok (.dstore 5, 2) := by decide +kernel
theorem dX8_chanceOfSet_34 : decode cX8_chanceOfSet 34 = .ok (.dload_n 2, 1) := by decide +kernel
theorem dX8_chanceOfSet_35 : decode cX8_chanceOfSet 35 = .ok (.iload_n 1, 1) := by decide +kernel
theorem dX8_chanceOfSet_36 : decode cX8_chanceOfSet 36 = .ok (.iload 4, 2) := by decide +kernel
theorem dX8_chanceOfSet_38 : decode cX8_chanceOfSet 38 = .ok (.ishr, 1) := by decide +kernel
theorem dX8_chanceOfSet_39 : decode cX8_chanceOfSet 39 = .ok (.iconst 1, 1) := by decide +kernel
theorem dX8_chanceOfSet_40 : decode cX8_chanceOfSet 40 = .ok (.iand, 1) := by decide +kernel
theorem dX8_chanceOfSet_41 : decode cX8_chanceOfSet 41 = .ok (.iconst 1, 1) := by decide +kernel
theorem dX8_chanceOfSet_42 : decode cX8_chanceOfSet 42 = .ok (.if_icmp .ne 8, 3) := by decide +kernel
theorem dX8_chanceOfSet_45 : decode cX8_chanceOfSet 45 = .ok (.dload 5, 2) := by decide +kernel
theorem dX8_chanceOfSet_47 : decode cX8_chanceOfSet 47 = .ok (.goto 7, 3) := by decide +kernel
theorem dX8_chanceOfSet_50 : decode cX8_chanceOfSet 50 = .ok (.dconst 1, 1) := by decide +kernel
theorem dX8_chanceOfSet_51 : decode cX8_chanceOfSet 51 = .ok (.dload 5, 2) := by decide +kernel
theorem dX8_chanceOfSet_53 : decode cX8_chanceOfSet 53 = .ok (.dsub, 1) := by decide +kernel
theorem dX8_chanceOfSet_54 : decode cX8_chanceOfSet 54 = .ok (.dmul, 1) := by decide +kernel
theorem dX8_chanceOfSet_55 : decode cX8_chanceOfSet 55 = .ok (.dstore_n 2, 1) := by decide +kernel
theorem dX8_chanceOfSet_56 : decode cX8_chanceOfSet 56 = .ok (.iinc 4 1, 3) := by decide +kernel
theorem dX8_chanceOfSet_59 : decode cX8_chanceOfSet 59 = .ok (.goto (-54), 3) := by decide +kernel
theorem dX8_chanceOfSet_62 : decode cX8_chanceOfSet 62 = .ok (.dload_n 2, 1) := by decide +kernel
theorem dX8_chanceOfSet_63 : decode cX8_chanceOfSet 63 = .ok (.dreturn, 1) := by decide +kernel
theorem dX8_figureOfLand_0 : decode cX8_figureOfLand 0 = .ok (.iload_n 2, 1) := by decide +kernel
theorem dX8_figureOfLand_1 : decode cX8_figureOfLand 1 = .ok (.tableswitch 100 0 7 #[47, 52, 57, 70, 75, 80, 85, 91], 47) := by decide +kernel
theorem dX8_figureOfLand_48 : decode cX8_figureOfLand 48 = .ok (.aload_n 1, 1) := by decide +kernel
theorem dX8_figureOfLand_49 : decode cX8_figureOfLand 49 = .ok (.getfield 103, 3) := by decide +kernel
theorem dX8_figureOfLand_52 : decode cX8_figureOfLand 52 = .ok (.ireturn, 1) := by decide +kernel
theorem dX8_figureOfLand_53 : decode cX8_figureOfLand 53 = .ok (.aload_n 1, 1) := by decide +kernel
theorem dX8_figureOfLand_54 : decode cX8_figureOfLand 54 = .ok (.getfield 106, 3) := by decide +kernel
theorem dX8_figureOfLand_57 : decode cX8_figureOfLand 57 = .ok (.ireturn, 1) := by decide +kernel
theorem dX8_figureOfLand_58 : decode cX8_figureOfLand 58 = .ok (.aload_n 1, 1) := by decide +kernel
theorem dX8_figureOfLand_59 : decode cX8_figureOfLand 59 = .ok (.getfield 109, 3) := by decide +kernel
theorem dX8_figureOfLand_62 : decode cX8_figureOfLand 62 = .ok (.ifCond .eq 7, 3) := by decide +kernel
theorem dX8_figureOfLand_65 : decode cX8_figureOfLand 65 = .ok (.iconst 1, 1) := by decide +kernel
theorem dX8_figureOfLand_66 : decode cX8_figureOfLand 66 = .ok (.goto 4, 3) := by decide +kernel
theorem dX8_figureOfLand_69 : decode cX8_figureOfLand 69 = .ok (.iconst 0, 1) := by decide +kernel
theorem dX8_figureOfLand_70 : decode cX8_figureOfLand 70 = .ok (.ireturn, 1) := by decide +kernel
theorem dX8_figureOfLand_71 : decode cX8_figureOfLand 71 = .ok (.aload_n 1, 1) := by decide +kernel
theorem dX8_figureOfLand_72 : decode cX8_figureOfLand 72 = .ok (.getfield 113, 3) := by decide +kernel
theorem dX8_figureOfLand_75 : decode cX8_figureOfLand 75 = .ok (.ireturn, 1) := by decide +kernel
theorem dX8_figureOfLand_76 : decode cX8_figureOfLand 76 = .ok (.aload_n 1, 1) := by decide +kernel
theorem dX8_figureOfLand_77 : decode cX8_figureOfLand 77 = .ok (.getfield 120, 3) := by decide +kernel
theorem dX8_figureOfLand_80 : decode cX8_figureOfLand 80 = .ok (.ireturn, 1) := by decide +kernel
theorem dX8_figureOfLand_81 : decode cX8_figureOfLand 81 = .ok (.aload_n 1, 1) := by decide +kernel
theorem dX8_figureOfLand_82 : decode cX8_figureOfLand 82 = .ok (.invokevirtual 546, 3) := by decide +kernel
theorem dX8_figureOfLand_85 : decode cX8_figureOfLand 85 = .ok (.ireturn, 1) := by decide +kernel
theorem dX8_figureOfLand_86 : decode cX8_figureOfLand 86 = .ok (.aload_n 0, 1) := by decide +kernel
theorem dX8_figureOfLand_87 : decode cX8_figureOfLand 87 = .ok (.aload_n 1, 1) := by decide +kernel
theorem dX8_figureOfLand_88 : decode cX8_figureOfLand 88 = .ok (.invokevirtual 385, 3) := by decide +kernel
theorem dX8_figureOfLand_91 : decode cX8_figureOfLand 91 = .ok (.ireturn, 1) := by decide +kernel
theorem dX8_figureOfLand_92 : decode cX8_figureOfLand 92 = .ok (.aload_n 1, 1) := by decide +kernel
theorem dX8_figureOfLand_93 : decode cX8_figureOfLand 93 = .ok (.aload_n 0, 1) := by decide +kernel
theorem dX8_figureOfLand_94 : decode cX8_figureOfLand 94 = .ok (.getfield 151, 3) := by decide +kernel
theorem dX8_figureOfLand_97 : decode cX8_figureOfLand 97 = .ok (.invokevirtual 154, 3) := by decide +kernel
theorem dX8_figureOfLand_100 : decode cX8_figureOfLand 100 = .ok (.ireturn, 1) := by decide +kernel
theorem dX8_figureOfLand_101 : decode cX8_figureOfLand 101 = .ok (.aload_n 1, 1) := by decide +kernel
theorem dX8_figureOfLand_102 : decode cX8_figureOfLand 102 = .ok (.aload_n 0, 1) := by decide +kernel
theorem dX8_figureOfLand_103 : decode cX8_figureOfLand 103 = .ok (.getfield 151, 3) := by decide +kernel
theorem dX8_figureOfLand_106 : decode cX8_figureOfLand 106 = .ok (.invokevirtual 490, 3) := by decide +kernel
theorem dX8_figureOfLand_109 : decode cX8_figureOfLand 109 = .ok (.ireturn, 1) := by decide +kernel
theorem dX8_figureOfBuyer_0 : decode cX8_figureOfBuyer 0 = .ok (.iload_n 2, 1) := by decide +kernel
theorem dX8_figureOfBuyer_1 : decode cX8_figureOfBuyer 1 = .ok (.tableswitch 74 0 4 #[35, 43, 48, 53, 61], 35) := by decide +kernel
theorem dX8_figureOfBuyer_36 : decode cX8_figureOfBuyer 36 = .ok (.aload_n 1, 1) := by decide +kernel
theorem dX8_figureOfBuyer_37 : decode cX8_figureOfBuyer 37 = .ok (.getfield 206, 3) := by decide +kernel
theorem dX8_figureOfBuyer_40 : decode cX8_figureOfBuyer 40 = .ok (.getfield 93, 3) := by decide +kernel
theorem dX8_figureOfBuyer_43 : decode cX8_figureOfBuyer 43 = .ok (.ireturn, 1) := by decide +kernel
theorem dX8_figureOfBuyer_44 : decode cX8_figureOfBuyer 44 = .ok (.aload_n 1, 1) := by decide +kernel
theorem dX8_figureOfBuyer_45 : decode cX8_figureOfBuyer 45 = .ok (.getfield 184, 3) := by decide +kernel
theorem dX8_figureOfBuyer_48 : decode cX8_figureOfBuyer 48 = .ok (.ireturn, 1) := by decide +kernel
theorem dX8_figureOfBuyer_49 : decode cX8_figureOfBuyer 49 = .ok (.aload_n 1, 1) := by decide +kernel
theorem dX8_figureOfBuyer_50 : decode cX8_figureOfBuyer 50 = .ok (.getfield 135, 3) := by decide +kernel
theorem dX8_figureOfBuyer_53 : decode cX8_figureOfBuyer 53 = .ok (.ireturn, 1) := by decide +kernel
theorem dX8_figureOfBuyer_54 : decode cX8_figureOfBuyer 54 = .ok (.aload_n 1, 1) := by decide +kernel
theorem dX8_figureOfBuyer_55 : decode cX8_figureOfBuyer 55 = .ok (.getfield 79, 3) := by decide +kernel
theorem dX8_figureOfBuyer_58 : decode cX8_figureOfBuyer 58 = .ok (.getfield 129, 3) := by decide +kernel
theorem dX8_figureOfBuyer_61 : decode cX8_figureOfBuyer 61 = .ok (.ireturn, 1) := by decide +kernel
theorem dX8_figureOfBuyer_62 : decode cX8_figureOfBuyer 62 = .ok (.aload_n 1, 1) := by decide +kernel
theorem dX8_figureOfBuyer_63 : decode cX8_figureOfBuyer 63 = .ok (.invokevirtual 235, 3) := by decide +kernel
theorem dX8_figureOfBuyer_66 : decode cX8_figureOfBuyer 66 = .ok (.ifCond .eq 7, 3) := by decide +kernel
theorem dX8_figureOfBuyer_69 : decode cX8_figureOfBuyer 69 = .ok (.iconst 1, 1) := by decide +kernel
theorem dX8_figureOfBuyer_70 : decode cX8_figureOfBuyer 70 = .ok (.goto 4, 3) := by decide +kernel
theorem dX8_figureOfBuyer_73 : decode cX8_figureOfBuyer 73 = .ok (.iconst 0, 1) := by decide +kernel
theorem dX8_figureOfBuyer_74 : decode cX8_figureOfBuyer 74 = .ok (.ireturn, 1) := by decide +kernel
theorem dX8_figureOfBuyer_75 : decode cX8_figureOfBuyer 75 = .ok (.aload_n 0, 1) := by decide +kernel
theorem dX8_figureOfBuyer_76 : decode cX8_figureOfBuyer 76 = .ok (.aload_n 1, 1) := by decide +kernel
theorem dX8_figureOfBuyer_77 : decode cX8_figureOfBuyer 77 = .ok (.invokevirtual 549, 3) := by decide +kernel
theorem dX8_figureOfBuyer_80 : decode cX8_figureOfBuyer 80 = .ok (.ireturn, 1) := by decide +kernel
theorem dX8_debtOf_0 : decode cX8_debtOf 0 = .ok (.iconst 0, 1) := by decide +kernel
theorem dX8_debtOf_1 : decode cX8_debtOf 1 = .ok (.istore_n 2, 1) := by decide +kernel
theorem dX8_debtOf_2 : decode cX8_debtOf 2 = .ok (.iconst 0, 1) := by decide +kernel
theorem dX8_debtOf_3 : decode cX8_debtOf 3 = .ok (.istore_n 3, 1) := by decide +kernel
theorem dX8_debtOf_4 : decode cX8_debtOf 4 = .ok (.iload_n 3, 1) := by decide +kernel
theorem dX8_debtOf_5 : decode cX8_debtOf 5 = .ok (.aload_n 0, 1) := by decide +kernel
theorem dX8_debtOf_6 : decode cX8_debtOf 6 = .ok (.getfield 25, 3) := by decide +kernel
theorem dX8_debtOf_9 : decode cX8_debtOf 9 = .ok (.invokevirtual 89, 3) := by decide +kernel
theorem dX8_debtOf_12 : decode cX8_debtOf 12 = .ok (.if_icmp .ge 55, 3) := by decide +kernel
theorem dX8_debtOf_15 : decode cX8_debtOf 15 = .ok (.aload_n 0, 1) := by decide +kernel
theorem dX8_debtOf_16 : decode cX8_debtOf 16 = .ok (.getfield 25, 3) := by decide +kernel
theorem dX8_debtOf_19 : decode cX8_debtOf 19 = .ok (.iload_n 3, 1) := by decide +kernel
theorem dX8_debtOf_20 : decode cX8_debtOf 20 = .ok (.invokevirtual 306, 3) := by decide +kernel
theorem dX8_debtOf_23 : decode cX8_debtOf 23 = .ok (.checkcast 201, 3) := by decide +kernel
theorem dX8_debtOf_26 : decode cX8_debtOf 26 = .ok (.astore 4, 2) := by decide +kernel
theorem dX8_debtOf_28 : decode cX8_debtOf 28 = .ok (.aload 4, 2) := by decide +kernel
theorem dX8_debtOf_30 : decode cX8_debtOf 30 = .ok (.getfield 310, 3) := by decide +kernel
theorem dX8_debtOf_33 : decode cX8_debtOf 33 = .ok (.aload_n 1, 1) := by decide +kernel
theorem dX8_debtOf_34 : decode cX8_debtOf 34 = .ok (.if_acmp .ne 27, 3) := by decide +kernel
theorem dX8_debtOf_37 : decode cX8_debtOf 37 = .ok (.aload 4, 2) := by decide +kernel
theorem dX8_debtOf_39 : decode cX8_debtOf 39 = .ok (.getfield 320, 3) := by decide +kernel
theorem dX8_debtOf_42 : decode cX8_debtOf 42 = .ok (.ifCond .ne 19, 3) := by decide +kernel
theorem dX8_debtOf_45 : decode cX8_debtOf 45 = .ok (.aload 4, 2) := by decide +kernel
theorem dX8_debtOf_47 : decode cX8_debtOf 47 = .ok (.getfield 303, 3) := by decide +kernel
theorem dX8_debtOf_50 : decode cX8_debtOf 50 = .ok (.ifCond .ne 11, 3) := by decide +kernel
theorem dX8_debtOf_53 : decode cX8_debtOf 53 = .ok (.iload_n 2, 1) := by decide +kernel
theorem dX8_debtOf_54 : decode cX8_debtOf 54 = .ok (.aload 4, 2) := by decide +kernel
theorem dX8_debtOf_56 : decode cX8_debtOf 56 = .ok (.getfield 242, 3) := by decide +kernel
theorem dX8_debtOf_59 : decode cX8_debtOf 59 = .ok (.iadd, 1) := by decide +kernel
theorem dX8_debtOf_60 : decode cX8_debtOf 60 = .ok (.istore_n 2, 1) := by decide +kernel
theorem dX8_debtOf_61 : decode cX8_debtOf 61 = .ok (.iinc 3 1, 3) := by decide +kernel
theorem dX8_debtOf_64 : decode cX8_debtOf 64 = .ok (.goto (-60), 3) := by decide +kernel
theorem dX8_debtOf_67 : decode cX8_debtOf 67 = .ok (.iload_n 2, 1) := by decide +kernel
theorem dX8_debtOf_68 : decode cX8_debtOf 68 = .ok (.ireturn, 1) := by decide +kernel
theorem dX8_figureOfExporter_0 : decode cX8_figureOfExporter 0 = .ok (.iload_n 2, 1) := by decide +kernel
theorem dX8_figureOfExporter_1 : decode cX8_figureOfExporter 1 = .ok (.tableswitch 65 0 4 #[35, 43, 48, 53, 59], 35) := by decide +kernel
theorem dX8_figureOfExporter_36 : decode cX8_figureOfExporter 36 = .ok (.aload_n 1, 1) := by decide +kernel
theorem dX8_figureOfExporter_37 : decode cX8_figureOfExporter 37 = .ok (.getfield 292, 3) := by decide +kernel
theorem dX8_figureOfExporter_40 : decode cX8_figureOfExporter 40 = .ok (.getfield 129, 3) := by decide +kernel
theorem dX8_figureOfExporter_43 : decode cX8_figureOfExporter 43 = .ok (.ireturn, 1) := by decide +kernel
theorem dX8_figureOfExporter_44 : decode cX8_figureOfExporter 44 = .ok (.aload_n 1, 1) := by decide +kernel
theorem dX8_figureOfExporter_45 : decode cX8_figureOfExporter 45 = .ok (.getfield 145, 3) := by decide +kernel
end PD4
